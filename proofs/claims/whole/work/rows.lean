section
-- ===== PART A: goes FIRST, ahead of the names: the tables' words, and 'selects' of the private methods out of them =====
/-- a private method of a class that the tables say can be made, by its rows of tables_1 -/
def lw_okq (q : MethodName × Nat) : Prop := (q.1.cls ≠ "java/lang/invoke/MethodHandle" ∧ q.1.cls ≠ "java/lang/invoke/VarHandle") ∧ Cond.instantiable q.1.cls q.2 ∈ tables_1 ∧ Cond.privateMethod q.1 ∈ tables_1 ∧ Cond.instanceMethod q.1 ∈ tables_1
theorem lw_p0 : lw_okq (⟨"EditorCore", "insert", "(I)I"⟩, 12) := ⟨⟨by decide +kernel, by decide +kernel⟩, List.mem_of_getElem? (i := 13) (by decide +kernel), List.mem_of_getElem? (i := 219) (by decide +kernel), List.mem_of_getElem? (i := 220) (by decide +kernel)⟩
theorem lw_p1 : lw_okq (⟨"EditorCore", "finish", "(I)V"⟩, 12) := ⟨⟨by decide +kernel, by decide +kernel⟩, List.mem_of_getElem? (i := 13) (by decide +kernel), List.mem_of_getElem? (i := 265) (by decide +kernel), List.mem_of_getElem? (i := 266) (by decide +kernel)⟩
theorem lw_p2 : lw_okq (⟨"EditorCore", "replay", "()I"⟩, 12) := ⟨⟨by decide +kernel, by decide +kernel⟩, List.mem_of_getElem? (i := 13) (by decide +kernel), List.mem_of_getElem? (i := 277) (by decide +kernel), List.mem_of_getElem? (i := 278) (by decide +kernel)⟩
theorem lw_p3 : lw_okq (⟨"EditorCore", "perform", "(I)I"⟩, 12) := ⟨⟨by decide +kernel, by decide +kernel⟩, List.mem_of_getElem? (i := 13) (by decide +kernel), List.mem_of_getElem? (i := 291) (by decide +kernel), List.mem_of_getElem? (i := 292) (by decide +kernel)⟩
theorem lw_p4 : lw_okq (⟨"EditorCore", "carryOut", "(I)I"⟩, 12) := ⟨⟨by decide +kernel, by decide +kernel⟩, List.mem_of_getElem? (i := 13) (by decide +kernel), List.mem_of_getElem? (i := 295) (by decide +kernel), List.mem_of_getElem? (i := 296) (by decide +kernel)⟩
theorem lw_p5 : lw_okq (⟨"EditorCore", "moveTo", "(I)I"⟩, 12) := ⟨⟨by decide +kernel, by decide +kernel⟩, List.mem_of_getElem? (i := 13) (by decide +kernel), List.mem_of_getElem? (i := 302) (by decide +kernel), List.mem_of_getElem? (i := 303) (by decide +kernel)⟩
theorem lw_p6 : lw_okq (⟨"EditorCore", "moveToGoal", "(I)I"⟩, 12) := ⟨⟨by decide +kernel, by decide +kernel⟩, List.mem_of_getElem? (i := 13) (by decide +kernel), List.mem_of_getElem? (i := 321) (by decide +kernel), List.mem_of_getElem? (i := 322) (by decide +kernel)⟩
theorem lw_p7 : lw_okq (⟨"EditorCore", "takeOut", "(II)I"⟩, 12) := ⟨⟨by decide +kernel, by decide +kernel⟩, List.mem_of_getElem? (i := 13) (by decide +kernel), List.mem_of_getElem? (i := 340) (by decide +kernel), List.mem_of_getElem? (i := 341) (by decide +kernel)⟩
theorem lw_p8 : lw_okq (⟨"EditorCore", "lineKillEnd", "()I"⟩, 12) := ⟨⟨by decide +kernel, by decide +kernel⟩, List.mem_of_getElem? (i := 13) (by decide +kernel), List.mem_of_getElem? (i := 344) (by decide +kernel), List.mem_of_getElem? (i := 345) (by decide +kernel)⟩
theorem lw_p9 : lw_okq (⟨"EditorCore", "kill", "(IIZ)I"⟩, 12) := ⟨⟨by decide +kernel, by decide +kernel⟩, List.mem_of_getElem? (i := 13) (by decide +kernel), List.mem_of_getElem? (i := 348) (by decide +kernel), List.mem_of_getElem? (i := 349) (by decide +kernel)⟩
theorem lw_p10 : lw_okq (⟨"EditorCore$Kills", "makeNewest", "()V"⟩, 2) := ⟨⟨by decide +kernel, by decide +kernel⟩, List.mem_of_getElem? (i := 68) (by decide +kernel), List.mem_of_getElem? (i := 356) (by decide +kernel), List.mem_of_getElem? (i := 357) (by decide +kernel)⟩
theorem lw_p11 : lw_okq (⟨"EditorCore", "regionBeginning", "()I"⟩, 12) := ⟨⟨by decide +kernel, by decide +kernel⟩, List.mem_of_getElem? (i := 13) (by decide +kernel), List.mem_of_getElem? (i := 363) (by decide +kernel), List.mem_of_getElem? (i := 364) (by decide +kernel)⟩
theorem lw_p12 : lw_okq (⟨"EditorCore", "regionEnd", "()I"⟩, 12) := ⟨⟨by decide +kernel, by decide +kernel⟩, List.mem_of_getElem? (i := 13) (by decide +kernel), List.mem_of_getElem? (i := 367) (by decide +kernel), List.mem_of_getElem? (i := 368) (by decide +kernel)⟩
theorem lw_p13 : lw_okq (⟨"EditorCore", "copy", "(II)I"⟩, 12) := ⟨⟨by decide +kernel, by decide +kernel⟩, List.mem_of_getElem? (i := 13) (by decide +kernel), List.mem_of_getElem? (i := 371) (by decide +kernel), List.mem_of_getElem? (i := 372) (by decide +kernel)⟩
theorem lw_p14 : lw_okq (⟨"EditorCore", "putKill", "(III)I"⟩, 12) := ⟨⟨by decide +kernel, by decide +kernel⟩, List.mem_of_getElem? (i := 13) (by decide +kernel), List.mem_of_getElem? (i := 375) (by decide +kernel), List.mem_of_getElem? (i := 376) (by decide +kernel)⟩
theorem lw_p15 : lw_okq (⟨"EditorCore", "setMark", "(I)I"⟩, 12) := ⟨⟨by decide +kernel, by decide +kernel⟩, List.mem_of_getElem? (i := 13) (by decide +kernel), List.mem_of_getElem? (i := 379) (by decide +kernel), List.mem_of_getElem? (i := 380) (by decide +kernel)⟩
def lw_privs_1 : List (MethodName × Nat) := [(⟨"EditorCore", "insert", "(I)I"⟩, 12), (⟨"EditorCore", "finish", "(I)V"⟩, 12), (⟨"EditorCore", "replay", "()I"⟩, 12), (⟨"EditorCore", "perform", "(I)I"⟩, 12), (⟨"EditorCore", "carryOut", "(I)I"⟩, 12), (⟨"EditorCore", "moveTo", "(I)I"⟩, 12), (⟨"EditorCore", "moveToGoal", "(I)I"⟩, 12), (⟨"EditorCore", "takeOut", "(II)I"⟩, 12), (⟨"EditorCore", "lineKillEnd", "()I"⟩, 12), (⟨"EditorCore", "kill", "(IIZ)I"⟩, 12), (⟨"EditorCore$Kills", "makeNewest", "()V"⟩, 2), (⟨"EditorCore", "regionBeginning", "()I"⟩, 12), (⟨"EditorCore", "regionEnd", "()I"⟩, 12), (⟨"EditorCore", "copy", "(II)I"⟩, 12), (⟨"EditorCore", "putKill", "(III)I"⟩, 12), (⟨"EditorCore", "setMark", "(I)I"⟩, 12)]
theorem lw_r1 : ∀ q ∈ lw_privs_1, lw_okq q := List.forall_mem_cons.mpr ⟨lw_p0, List.forall_mem_cons.mpr ⟨lw_p1, List.forall_mem_cons.mpr ⟨lw_p2, List.forall_mem_cons.mpr ⟨lw_p3, List.forall_mem_cons.mpr ⟨lw_p4, List.forall_mem_cons.mpr ⟨lw_p5, List.forall_mem_cons.mpr ⟨lw_p6, List.forall_mem_cons.mpr ⟨lw_p7, List.forall_mem_cons.mpr ⟨lw_p8, List.forall_mem_cons.mpr ⟨lw_p9, List.forall_mem_cons.mpr ⟨lw_p10, List.forall_mem_cons.mpr ⟨lw_p11, List.forall_mem_cons.mpr ⟨lw_p12, List.forall_mem_cons.mpr ⟨lw_p13, List.forall_mem_cons.mpr ⟨lw_p14, List.forall_mem_cons.mpr ⟨lw_p15, fun _ h => absurd h List.not_mem_nil⟩⟩⟩⟩⟩⟩⟩⟩⟩⟩⟩⟩⟩⟩⟩⟩
theorem lw_p16 : lw_okq (⟨"EditorCore", "putOlderKill", "()I"⟩, 12) := ⟨⟨by decide +kernel, by decide +kernel⟩, List.mem_of_getElem? (i := 13) (by decide +kernel), List.mem_of_getElem? (i := 383) (by decide +kernel), List.mem_of_getElem? (i := 384) (by decide +kernel)⟩
theorem lw_p17 : lw_okq (⟨"EditorCore", "swapMark", "()I"⟩, 12) := ⟨⟨by decide +kernel, by decide +kernel⟩, List.mem_of_getElem? (i := 13) (by decide +kernel), List.mem_of_getElem? (i := 387) (by decide +kernel), List.mem_of_getElem? (i := 388) (by decide +kernel)⟩
theorem lw_p18 : lw_okq (⟨"EditorCore", "swapCharacters", "()I"⟩, 12) := ⟨⟨by decide +kernel, by decide +kernel⟩, List.mem_of_getElem? (i := 13) (by decide +kernel), List.mem_of_getElem? (i := 391) (by decide +kernel), List.mem_of_getElem? (i := 392) (by decide +kernel)⟩
theorem lw_p19 : lw_okq (⟨"EditorCore", "undo", "()I"⟩, 12) := ⟨⟨by decide +kernel, by decide +kernel⟩, List.mem_of_getElem? (i := 13) (by decide +kernel), List.mem_of_getElem? (i := 395) (by decide +kernel), List.mem_of_getElem? (i := 396) (by decide +kernel)⟩
theorem lw_p20 : lw_okq (⟨"EditorCore", "search", "()I"⟩, 12) := ⟨⟨by decide +kernel, by decide +kernel⟩, List.mem_of_getElem? (i := 13) (by decide +kernel), List.mem_of_getElem? (i := 405) (by decide +kernel), List.mem_of_getElem? (i := 406) (by decide +kernel)⟩
theorem lw_p21 : lw_okq (⟨"EditorCore$Keys", "drop", "(II)V"⟩, 4) := ⟨⟨by decide +kernel, by decide +kernel⟩, List.mem_of_getElem? (i := 111) (by decide +kernel), List.mem_of_getElem? (i := 434) (by decide +kernel), List.mem_of_getElem? (i := 435) (by decide +kernel)⟩
theorem lw_p22 : lw_okq (⟨"EditorCoreModel", "size", "(I)I"⟩, 36) := ⟨⟨by decide +kernel, by decide +kernel⟩, List.mem_of_getElem? (i := 497) (by decide +kernel), List.mem_of_getElem? (i := 616) (by decide +kernel), List.mem_of_getElem? (i := 617) (by decide +kernel)⟩
theorem lw_p23 : lw_okq (⟨"EditorCoreModel", "begins", "(IIIII)Z"⟩, 36) := ⟨⟨by decide +kernel, by decide +kernel⟩, List.mem_of_getElem? (i := 497) (by decide +kernel), List.mem_of_getElem? (i := 620) (by decide +kernel), List.mem_of_getElem? (i := 621) (by decide +kernel)⟩
theorem lw_p24 : lw_okq (⟨"EditorCoreModel", "dropBinding", "(I)V"⟩, 36) := ⟨⟨by decide +kernel, by decide +kernel⟩, List.mem_of_getElem? (i := 497) (by decide +kernel), List.mem_of_getElem? (i := 624) (by decide +kernel), List.mem_of_getElem? (i := 625) (by decide +kernel)⟩
theorem lw_p25 : lw_okq (⟨"EditorCoreModel", "insert", "(I)I"⟩, 36) := ⟨⟨by decide +kernel, by decide +kernel⟩, List.mem_of_getElem? (i := 497) (by decide +kernel), List.mem_of_getElem? (i := 632) (by decide +kernel), List.mem_of_getElem? (i := 633) (by decide +kernel)⟩
theorem lw_p26 : lw_okq (⟨"EditorCoreModel", "edit", "(II)V"⟩, 36) := ⟨⟨by decide +kernel, by decide +kernel⟩, List.mem_of_getElem? (i := 497) (by decide +kernel), List.mem_of_getElem? (i := 639) (by decide +kernel), List.mem_of_getElem? (i := 640) (by decide +kernel)⟩
theorem lw_p27 : lw_okq (⟨"EditorCoreModel", "step", "(II)V"⟩, 36) := ⟨⟨by decide +kernel, by decide +kernel⟩, List.mem_of_getElem? (i := 497) (by decide +kernel), List.mem_of_getElem? (i := 646) (by decide +kernel), List.mem_of_getElem? (i := 647) (by decide +kernel)⟩
theorem lw_p28 : lw_okq (⟨"EditorCoreModel", "done", "(I)I"⟩, 36) := ⟨⟨by decide +kernel, by decide +kernel⟩, List.mem_of_getElem? (i := 497) (by decide +kernel), List.mem_of_getElem? (i := 650) (by decide +kernel), List.mem_of_getElem? (i := 651) (by decide +kernel)⟩
theorem lw_p29 : lw_okq (⟨"EditorCoreModel", "jot", "(I)V"⟩, 36) := ⟨⟨by decide +kernel, by decide +kernel⟩, List.mem_of_getElem? (i := 497) (by decide +kernel), List.mem_of_getElem? (i := 654) (by decide +kernel), List.mem_of_getElem? (i := 655) (by decide +kernel)⟩
theorem lw_p30 : lw_okq (⟨"EditorCoreModel", "play", "()I"⟩, 36) := ⟨⟨by decide +kernel, by decide +kernel⟩, List.mem_of_getElem? (i := 497) (by decide +kernel), List.mem_of_getElem? (i := 662) (by decide +kernel), List.mem_of_getElem? (i := 663) (by decide +kernel)⟩
theorem lw_p31 : lw_okq (⟨"EditorCoreModel", "resolve", "(I)I"⟩, 36) := ⟨⟨by decide +kernel, by decide +kernel⟩, List.mem_of_getElem? (i := 497) (by decide +kernel), List.mem_of_getElem? (i := 666) (by decide +kernel), List.mem_of_getElem? (i := 667) (by decide +kernel)⟩
def lw_privs_2 : List (MethodName × Nat) := [(⟨"EditorCore", "putOlderKill", "()I"⟩, 12), (⟨"EditorCore", "swapMark", "()I"⟩, 12), (⟨"EditorCore", "swapCharacters", "()I"⟩, 12), (⟨"EditorCore", "undo", "()I"⟩, 12), (⟨"EditorCore", "search", "()I"⟩, 12), (⟨"EditorCore$Keys", "drop", "(II)V"⟩, 4), (⟨"EditorCoreModel", "size", "(I)I"⟩, 36), (⟨"EditorCoreModel", "begins", "(IIIII)Z"⟩, 36), (⟨"EditorCoreModel", "dropBinding", "(I)V"⟩, 36), (⟨"EditorCoreModel", "insert", "(I)I"⟩, 36), (⟨"EditorCoreModel", "edit", "(II)V"⟩, 36), (⟨"EditorCoreModel", "step", "(II)V"⟩, 36), (⟨"EditorCoreModel", "done", "(I)I"⟩, 36), (⟨"EditorCoreModel", "jot", "(I)V"⟩, 36), (⟨"EditorCoreModel", "play", "()I"⟩, 36), (⟨"EditorCoreModel", "resolve", "(I)I"⟩, 36)]
theorem lw_r2 : ∀ q ∈ lw_privs_2, lw_okq q := List.forall_mem_cons.mpr ⟨lw_p16, List.forall_mem_cons.mpr ⟨lw_p17, List.forall_mem_cons.mpr ⟨lw_p18, List.forall_mem_cons.mpr ⟨lw_p19, List.forall_mem_cons.mpr ⟨lw_p20, List.forall_mem_cons.mpr ⟨lw_p21, List.forall_mem_cons.mpr ⟨lw_p22, List.forall_mem_cons.mpr ⟨lw_p23, List.forall_mem_cons.mpr ⟨lw_p24, List.forall_mem_cons.mpr ⟨lw_p25, List.forall_mem_cons.mpr ⟨lw_p26, List.forall_mem_cons.mpr ⟨lw_p27, List.forall_mem_cons.mpr ⟨lw_p28, List.forall_mem_cons.mpr ⟨lw_p29, List.forall_mem_cons.mpr ⟨lw_p30, List.forall_mem_cons.mpr ⟨lw_p31, fun _ h => absurd h List.not_mem_nil⟩⟩⟩⟩⟩⟩⟩⟩⟩⟩⟩⟩⟩⟩⟩⟩
theorem lw_p32 : lw_okq (⟨"EditorCoreModel", "perform", "(I)I"⟩, 36) := ⟨⟨by decide +kernel, by decide +kernel⟩, List.mem_of_getElem? (i := 497) (by decide +kernel), List.mem_of_getElem? (i := 670) (by decide +kernel), List.mem_of_getElem? (i := 671) (by decide +kernel)⟩
theorem lw_p33 : lw_okq (⟨"EditorCoreModel", "work", "(I)I"⟩, 36) := ⟨⟨by decide +kernel, by decide +kernel⟩, List.mem_of_getElem? (i := 497) (by decide +kernel), List.mem_of_getElem? (i := 674) (by decide +kernel), List.mem_of_getElem? (i := 675) (by decide +kernel)⟩
theorem lw_p34 : lw_okq (⟨"EditorCoreModel", "erase", "(II)I"⟩, 36) := ⟨⟨by decide +kernel, by decide +kernel⟩, List.mem_of_getElem? (i := 497) (by decide +kernel), List.mem_of_getElem? (i := 678) (by decide +kernel), List.mem_of_getElem? (i := 679) (by decide +kernel)⟩
theorem lw_p35 : lw_okq (⟨"EditorCoreModel", "killLine", "()I"⟩, 36) := ⟨⟨by decide +kernel, by decide +kernel⟩, List.mem_of_getElem? (i := 497) (by decide +kernel), List.mem_of_getElem? (i := 682) (by decide +kernel), List.mem_of_getElem? (i := 683) (by decide +kernel)⟩
theorem lw_p36 : lw_okq (⟨"EditorCoreModel", "lineEnd", "(I)I"⟩, 36) := ⟨⟨by decide +kernel, by decide +kernel⟩, List.mem_of_getElem? (i := 497) (by decide +kernel), List.mem_of_getElem? (i := 686) (by decide +kernel), List.mem_of_getElem? (i := 687) (by decide +kernel)⟩
theorem lw_p37 : lw_okq (⟨"EditorCoreModel", "keep", "(IIZ)V"⟩, 36) := ⟨⟨by decide +kernel, by decide +kernel⟩, List.mem_of_getElem? (i := 497) (by decide +kernel), List.mem_of_getElem? (i := 690) (by decide +kernel), List.mem_of_getElem? (i := 691) (by decide +kernel)⟩
theorem lw_p38 : lw_okq (⟨"EditorCoreModel", "killRegion", "(Z)I"⟩, 36) := ⟨⟨by decide +kernel, by decide +kernel⟩, List.mem_of_getElem? (i := 497) (by decide +kernel), List.mem_of_getElem? (i := 694) (by decide +kernel), List.mem_of_getElem? (i := 695) (by decide +kernel)⟩
theorem lw_p39 : lw_okq (⟨"EditorCoreModel", "yank", "(III)I"⟩, 36) := ⟨⟨by decide +kernel, by decide +kernel⟩, List.mem_of_getElem? (i := 497) (by decide +kernel), List.mem_of_getElem? (i := 698) (by decide +kernel), List.mem_of_getElem? (i := 699) (by decide +kernel)⟩
theorem lw_p40 : lw_okq (⟨"EditorCoreModel", "exchange", "()I"⟩, 36) := ⟨⟨by decide +kernel, by decide +kernel⟩, List.mem_of_getElem? (i := 497) (by decide +kernel), List.mem_of_getElem? (i := 702) (by decide +kernel), List.mem_of_getElem? (i := 703) (by decide +kernel)⟩
theorem lw_p41 : lw_okq (⟨"EditorCoreModel", "swap", "()I"⟩, 36) := ⟨⟨by decide +kernel, by decide +kernel⟩, List.mem_of_getElem? (i := 497) (by decide +kernel), List.mem_of_getElem? (i := 706) (by decide +kernel), List.mem_of_getElem? (i := 707) (by decide +kernel)⟩
theorem lw_p42 : lw_okq (⟨"EditorCoreModel", "undo", "()I"⟩, 36) := ⟨⟨by decide +kernel, by decide +kernel⟩, List.mem_of_getElem? (i := 497) (by decide +kernel), List.mem_of_getElem? (i := 710) (by decide +kernel), List.mem_of_getElem? (i := 711) (by decide +kernel)⟩
theorem lw_p43 : lw_okq (⟨"EditorCoreModel", "search", "()I"⟩, 36) := ⟨⟨by decide +kernel, by decide +kernel⟩, List.mem_of_getElem? (i := 497) (by decide +kernel), List.mem_of_getElem? (i := 714) (by decide +kernel), List.mem_of_getElem? (i := 715) (by decide +kernel)⟩
theorem lw_p44 : lw_okq (⟨"EditorCoreModel", "move", "(I)I"⟩, 36) := ⟨⟨by decide +kernel, by decide +kernel⟩, List.mem_of_getElem? (i := 497) (by decide +kernel), List.mem_of_getElem? (i := 718) (by decide +kernel), List.mem_of_getElem? (i := 719) (by decide +kernel)⟩
theorem lw_p45 : lw_okq (⟨"EditorCoreModel", "vertical", "(I)V"⟩, 36) := ⟨⟨by decide +kernel, by decide +kernel⟩, List.mem_of_getElem? (i := 497) (by decide +kernel), List.mem_of_getElem? (i := 722) (by decide +kernel), List.mem_of_getElem? (i := 723) (by decide +kernel)⟩
theorem lw_p46 : lw_okq (⟨"EditorCoreModel", "lineStart", "(I)I"⟩, 36) := ⟨⟨by decide +kernel, by decide +kernel⟩, List.mem_of_getElem? (i := 497) (by decide +kernel), List.mem_of_getElem? (i := 726) (by decide +kernel), List.mem_of_getElem? (i := 727) (by decide +kernel)⟩
theorem lw_p47 : lw_okq (⟨"EditorCoreModel", "words", "(Z)V"⟩, 36) := ⟨⟨by decide +kernel, by decide +kernel⟩, List.mem_of_getElem? (i := 497) (by decide +kernel), List.mem_of_getElem? (i := 730) (by decide +kernel), List.mem_of_getElem? (i := 731) (by decide +kernel)⟩
def lw_privs_3 : List (MethodName × Nat) := [(⟨"EditorCoreModel", "perform", "(I)I"⟩, 36), (⟨"EditorCoreModel", "work", "(I)I"⟩, 36), (⟨"EditorCoreModel", "erase", "(II)I"⟩, 36), (⟨"EditorCoreModel", "killLine", "()I"⟩, 36), (⟨"EditorCoreModel", "lineEnd", "(I)I"⟩, 36), (⟨"EditorCoreModel", "keep", "(IIZ)V"⟩, 36), (⟨"EditorCoreModel", "killRegion", "(Z)I"⟩, 36), (⟨"EditorCoreModel", "yank", "(III)I"⟩, 36), (⟨"EditorCoreModel", "exchange", "()I"⟩, 36), (⟨"EditorCoreModel", "swap", "()I"⟩, 36), (⟨"EditorCoreModel", "undo", "()I"⟩, 36), (⟨"EditorCoreModel", "search", "()I"⟩, 36), (⟨"EditorCoreModel", "move", "(I)I"⟩, 36), (⟨"EditorCoreModel", "vertical", "(I)V"⟩, 36), (⟨"EditorCoreModel", "lineStart", "(I)I"⟩, 36), (⟨"EditorCoreModel", "words", "(Z)V"⟩, 36)]
theorem lw_r3 : ∀ q ∈ lw_privs_3, lw_okq q := List.forall_mem_cons.mpr ⟨lw_p32, List.forall_mem_cons.mpr ⟨lw_p33, List.forall_mem_cons.mpr ⟨lw_p34, List.forall_mem_cons.mpr ⟨lw_p35, List.forall_mem_cons.mpr ⟨lw_p36, List.forall_mem_cons.mpr ⟨lw_p37, List.forall_mem_cons.mpr ⟨lw_p38, List.forall_mem_cons.mpr ⟨lw_p39, List.forall_mem_cons.mpr ⟨lw_p40, List.forall_mem_cons.mpr ⟨lw_p41, List.forall_mem_cons.mpr ⟨lw_p42, List.forall_mem_cons.mpr ⟨lw_p43, List.forall_mem_cons.mpr ⟨lw_p44, List.forall_mem_cons.mpr ⟨lw_p45, List.forall_mem_cons.mpr ⟨lw_p46, List.forall_mem_cons.mpr ⟨lw_p47, fun _ h => absurd h List.not_mem_nil⟩⟩⟩⟩⟩⟩⟩⟩⟩⟩⟩⟩⟩⟩⟩⟩
theorem lw_p48 : lw_okq (⟨"EditorCoreModel", "show", "()V"⟩, 36) := ⟨⟨by decide +kernel, by decide +kernel⟩, List.mem_of_getElem? (i := 497) (by decide +kernel), List.mem_of_getElem? (i := 758) (by decide +kernel), List.mem_of_getElem? (i := 759) (by decide +kernel)⟩
theorem lw_p49 : lw_okq (⟨"EditorCoreModel", "pointRow", "()I"⟩, 36) := ⟨⟨by decide +kernel, by decide +kernel⟩, List.mem_of_getElem? (i := 497) (by decide +kernel), List.mem_of_getElem? (i := 762) (by decide +kernel), List.mem_of_getElem? (i := 763) (by decide +kernel)⟩
theorem lw_p50 : lw_okq (⟨"EditorCoreModel", "rowsBefore", "(I)I"⟩, 36) := ⟨⟨by decide +kernel, by decide +kernel⟩, List.mem_of_getElem? (i := 497) (by decide +kernel), List.mem_of_getElem? (i := 766) (by decide +kernel), List.mem_of_getElem? (i := 767) (by decide +kernel)⟩
def lw_privs_4 : List (MethodName × Nat) := [(⟨"EditorCoreModel", "show", "()V"⟩, 36), (⟨"EditorCoreModel", "pointRow", "()I"⟩, 36), (⟨"EditorCoreModel", "rowsBefore", "(I)I"⟩, 36)]
theorem lw_r4 : ∀ q ∈ lw_privs_4, lw_okq q := List.forall_mem_cons.mpr ⟨lw_p48, List.forall_mem_cons.mpr ⟨lw_p49, List.forall_mem_cons.mpr ⟨lw_p50, fun _ h => absurd h List.not_mem_nil⟩⟩⟩
def lw_privs : List (MethodName × Nat) := lw_privs_1 ++ (lw_privs_2 ++ (lw_privs_3 ++ (lw_privs_4)))
def lw_tbl : List Cond := k2_sels lw_privs ++ tables_1
theorem lw_privs_ok : ∀ q ∈ lw_privs, lw_okq q := by
  show ∀ q ∈ lw_privs_1 ++ (lw_privs_2 ++ (lw_privs_3 ++ (lw_privs_4))), lw_okq q
  exact List.forall_mem_append.mpr ⟨lw_r1, List.forall_mem_append.mpr ⟨lw_r2, List.forall_mem_append.mpr ⟨lw_r3, lw_r4⟩⟩⟩
end
section
/-! classes: their fields, the shapes of the cells in the order in which they are made -/
def tT_E : u_T := fun k => match k with
  | 0 => ("EditorCore", "text", "LEditorCore$Text;", true)
  | 1 => ("EditorCore", "kills", "LEditorCore$Kills;", true)
  | 2 => ("EditorCore", "history", "LEditorCore$History;", true)
  | 3 => ("EditorCore", "keys", "LEditorCore$Keys;", true)
  | 4 => ("EditorCore", "events", "LEditorCore$Events;", true)
  | 5 => ("EditorCore", "window", "LEditorCore$Window;", true)
  | 6 => ("EditorCore", "draft", "LEditorCore$Letters;", true)
  | 7 => ("EditorCore", "times", "I", false)
  | 8 => ("EditorCore", "last", "I", false)
  | 9 => ("EditorCore", "goalColumn", "I", false)
  | 10 => ("EditorCore", "yanked", "I", false)
  | _ => ("EditorCore", "undone", "I", false)
def tT_T : u_T := fun k => match k with
  | 0 => ("EditorCore$Text", "body", "LEditorCore$Letters;", true)
  | 1 => ("EditorCore$Text", "places", "[I", true)
  | 2 => ("EditorCore$Text", "following", "[Z", true)
  | _ => ("EditorCore$Text", "point", "I", false)
def tT_L : u_T := fun k => match k with
  | 0 => ("EditorCore$Letters", "codes", "[I", true)
  | _ => ("EditorCore$Letters", "size", "I", false)
def tT_K : u_T := fun k => match k with
  | 0 => ("EditorCore$Kills", "rows", "[LEditorCore$Letters;", true)
  | _ => ("EditorCore$Kills", "count", "I", false)
def tT_H : u_T := fun k => match k with
  | 0 => ("EditorCore$History", "at", "[I", true)
  | 1 => ("EditorCore$History", "putIn", "[I", true)
  | 2 => ("EditorCore$History", "takenOut", "[LEditorCore$Letters;", true)
  | _ => ("EditorCore$History", "made", "I", false)
def tT_Y : u_T := fun k => match k with
  | 0 => ("EditorCore$Keys", "bound", "[I", true)
  | 1 => ("EditorCore$Keys", "called", "[I", true)
  | 2 => ("EditorCore$Keys", "count", "I", false)
  | _ => ("EditorCore$Keys", "pending", "I", false)
def tT_V : u_T := fun k => match k with
  | 0 => ("EditorCore$Events", "codes", "[I", true)
  | 1 => ("EditorCore$Events", "typed", "[Z", true)
  | 2 => ("EditorCore$Events", "size", "I", false)
  | _ => ("EditorCore$Events", "recorded", "Z", false)
def tT_N : u_T := fun k => match k with
  | 0 => ("EditorCore$Window", "columns", "I", false)
  | 1 => ("EditorCore$Window", "rows", "I", false)
  | _ => ("EditorCore$Window", "firstRow", "I", false)
def tT_R : u_T := fun k => match k with
  | 0 => ("EditorCoreModel", "text", "[I", true)
  | 1 => ("EditorCoreModel", "old", "[I", true)
  | 2 => ("EditorCoreModel", "fresh", "[I", true)
  | 3 => ("EditorCoreModel", "length", "I", false)
  | 4 => ("EditorCoreModel", "freshLength", "I", false)
  | 5 => ("EditorCoreModel", "point", "I", false)
  | 6 => ("EditorCoreModel", "mark", "I", false)
  | 7 => ("EditorCoreModel", "n", "I", false)
  | 8 => ("EditorCoreModel", "last", "I", false)
  | 9 => ("EditorCoreModel", "goal", "I", false)
  | 10 => ("EditorCoreModel", "marker", "[I", true)
  | 11 => ("EditorCoreModel", "following", "[Z", true)
  | 12 => ("EditorCoreModel", "kill", "[I", true)
  | 13 => ("EditorCoreModel", "killLength", "[I", true)
  | 14 => ("EditorCoreModel", "kills", "I", false)
  | 15 => ("EditorCoreModel", "yankAt", "I", false)
  | 16 => ("EditorCoreModel", "yankLength", "I", false)
  | 17 => ("EditorCoreModel", "yankKill", "I", false)
  | 18 => ("EditorCoreModel", "before", "[I", true)
  | 19 => ("EditorCoreModel", "beforeLength", "[I", true)
  | 20 => ("EditorCoreModel", "stepAt", "[I", true)
  | 21 => ("EditorCoreModel", "stepTook", "[I", true)
  | 22 => ("EditorCoreModel", "stepPut", "[I", true)
  | 23 => ("EditorCoreModel", "steps", "I", false)
  | 24 => ("EditorCoreModel", "undone", "I", false)
  | 25 => ("EditorCoreModel", "bound", "[I", true)
  | 26 => ("EditorCoreModel", "command", "[I", true)
  | 27 => ("EditorCoreModel", "bindings", "I", false)
  | 28 => ("EditorCoreModel", "pending", "[I", true)
  | 29 => ("EditorCoreModel", "pendings", "I", false)
  | 30 => ("EditorCoreModel", "event", "[I", true)
  | 31 => ("EditorCoreModel", "events", "I", false)
  | 32 => ("EditorCoreModel", "recorded", "Z", false)
  | 33 => ("EditorCoreModel", "columns", "I", false)
  | 34 => ("EditorCoreModel", "rows", "I", false)
  | _ => ("EditorCoreModel", "firstRow", "I", false)
def mm_cl : List vw_C := [("EditorCore", tT_E, 12), ("EditorCore$Text", tT_T, 4), ("EditorCore$Letters", tT_L, 2), ("EditorCore$Kills", tT_K, 2), ("EditorCore$History", tT_H, 4), ("EditorCore$Keys", tT_Y, 4), ("EditorCore$Events", tT_V, 4), ("EditorCore$Window", tT_N, 3), ("EditorCoreModel", tT_R, 36)]
def mm_fdL : List (List FieldType) := [[.object "EditorCore$Text", .object "EditorCore$Kills", .object "EditorCore$History", .object "EditorCore$Keys", .object "EditorCore$Events", .object "EditorCore$Window", .object "EditorCore$Letters", .int, .int, .int, .int, .int], [.object "EditorCore$Letters", .array .int, .array .boolean, .int], [.array .int, .int], [.array (.object "EditorCore$Letters"), .int], [.array .int, .array .int, .array (.object "EditorCore$Letters"), .int], [.array .int, .array .int, .int, .int], [.array .int, .array .boolean, .int, .boolean], [.int, .int, .int], [.array .int, .array .int, .array .int, .int, .int, .int, .int, .int, .int, .int, .array .int, .array .boolean, .array .int, .array .int, .int, .int, .int, .int, .array .int, .array .int, .array .int, .array .int, .array .int, .int, .int, .array .int, .array .int, .int, .array .int, .int, .array .int, .int, .boolean, .int, .int, .int]]
def mm_ffL : List (List Bool) := [[true, true, true, true, true, true, true, false, false, false, false, false], [true, true, true, false], [true, false], [true, false], [true, true, true, false], [true, true, false, false], [true, true, false, false], [false, false, false], [true, true, true, false, false, false, false, false, false, false, true, true, true, true, false, false, false, false, true, true, true, true, true, false, false, true, true, false, true, false, true, false, false, false, false, false]]
def mm_foL : List String := ["EditorCore", "EditorCore$Text", "EditorCore$Letters", "EditorCore$Kills", "EditorCore$History", "EditorCore$Keys", "EditorCore$Events", "EditorCore$Window", "EditorCoreModel"]
def mm_fd (ci k : Nat) : FieldType := (mm_fdL.getD ci []).getD k .int
def mm_ff (ci k : Nat) : Bool := (mm_ffL.getD ci []).getD k false
def mm_fo (ci _k : Nat) : String := mm_foL.getD ci ""
def mm_fr (ci k : Nat) : Bool := refKind (mm_fd ci k)
def mm_ty : List FieldType := [.int, .boolean, .object "EditorCore$Letters"]
def mm_shL : List (Nat ⊕ (Nat × Nat)) := [.inl 0, .inl 1, .inl 2, .inr (0, 100), .inr (0, 5), .inr (1, 5), .inl 3, .inr (2, 4), .inl 2, .inr (0, 100), .inl 2, .inr (0, 100), .inl 2, .inr (0, 100), .inl 2, .inr (0, 100), .inl 4, .inr (0, 20), .inr (0, 20), .inr (2, 20), .inl 2, .inr (0, 100), .inl 2, .inr (0, 100), .inl 2, .inr (0, 100), .inl 2, .inr (0, 100), .inl 2, .inr (0, 100), .inl 2, .inr (0, 100), .inl 2, .inr (0, 100), .inl 2, .inr (0, 100), .inl 2, .inr (0, 100), .inl 2, .inr (0, 100), .inl 2, .inr (0, 100), .inl 2, .inr (0, 100), .inl 2, .inr (0, 100), .inl 2, .inr (0, 100), .inl 2, .inr (0, 100), .inl 2, .inr (0, 100), .inl 2, .inr (0, 100), .inl 2, .inr (0, 100), .inl 2, .inr (0, 100), .inl 2, .inr (0, 100), .inl 5, .inr (0, 24), .inr (0, 24), .inl 6, .inr (0, 12), .inr (1, 12), .inl 7, .inl 2, .inr (0, 100), .inl 8, .inr (0, 100), .inr (0, 100), .inr (0, 100), .inr (0, 4), .inr (1, 4), .inr (0, 400), .inr (0, 4), .inr (0, 2000), .inr (0, 20), .inr (0, 20), .inr (0, 20), .inr (0, 20), .inr (0, 72), .inr (0, 24), .inr (0, 3), .inr (0, 12)]
def mm_SH (i : Nat) : Nat ⊕ (Nat × Nat) := mm_shL.getD i (.inl 0)
def lw_t2 : List Cond := lw_tbl.filter goodWord
def mm_X (s : State) : Prop := va_AO "EditorCore$Letters" s ∧ va_Nw (.methodLinkNest "EditorCore$Text" 50 ⟨"EditorCore", "isLetter", "(I)Z"⟩ "EditorCore") s
theorem mm_X_warm {s U : State} (hW : s.WarmedH U.vm) (h : mm_X s) : mm_X U := ⟨va_AO.moved hW.alike h.1, va_Nw.warmM hW h.2⟩
theorem mm_X_same {u U : State} (h : u.vm = U.vm) (hx : mm_X u) : mm_X U := ⟨va_AO.moved (by rw [← h]; exact Vm.Alike.refl _) hx.1, va_Nw.same rfl h hx.2⟩
theorem wd_0 : (Cond.initialized "EditorCoreLaw") ∈ lw_t2 := List.mem_filter.mpr ⟨List.mem_of_getElem? (i := 51) (by decide +kernel), by decide +kernel⟩
theorem wd_1 : (Cond.initialized "EditorCore") ∈ lw_t2 := List.mem_filter.mpr ⟨List.mem_of_getElem? (i := 52) (by decide +kernel), by decide +kernel⟩
theorem wd_2 : (Cond.initialized "EditorCore$Text") ∈ lw_t2 := List.mem_filter.mpr ⟨List.mem_of_getElem? (i := 53) (by decide +kernel), by decide +kernel⟩
theorem wd_3 : (Cond.initialized "EditorCore$Letters") ∈ lw_t2 := List.mem_filter.mpr ⟨List.mem_of_getElem? (i := 54) (by decide +kernel), by decide +kernel⟩
theorem wd_4 : (Cond.initialized "EditorCore$Kills") ∈ lw_t2 := List.mem_filter.mpr ⟨List.mem_of_getElem? (i := 55) (by decide +kernel), by decide +kernel⟩
theorem wd_5 : (Cond.initialized "EditorCore$History") ∈ lw_t2 := List.mem_filter.mpr ⟨List.mem_of_getElem? (i := 56) (by decide +kernel), by decide +kernel⟩
theorem wd_6 : (Cond.initialized "EditorCore$Keys") ∈ lw_t2 := List.mem_filter.mpr ⟨List.mem_of_getElem? (i := 57) (by decide +kernel), by decide +kernel⟩
theorem wd_7 : (Cond.initialized "EditorCore$Events") ∈ lw_t2 := List.mem_filter.mpr ⟨List.mem_of_getElem? (i := 58) (by decide +kernel), by decide +kernel⟩
theorem wd_8 : (Cond.initialized "EditorCore$Window") ∈ lw_t2 := List.mem_filter.mpr ⟨List.mem_of_getElem? (i := 59) (by decide +kernel), by decide +kernel⟩
theorem wd_9 : (Cond.initialized "EditorCoreModel") ∈ lw_t2 := List.mem_filter.mpr ⟨List.mem_of_getElem? (i := 60) (by decide +kernel), by decide +kernel⟩
theorem wd_10 : (Cond.initialized "java/lang/Math") ∈ lw_t2 := List.mem_filter.mpr ⟨List.mem_of_getElem? (i := 61) (by decide +kernel), by decide +kernel⟩
theorem wd_11 : (Cond.initialized "java/lang/System") ∈ lw_t2 := List.mem_filter.mpr ⟨List.mem_of_getElem? (i := 62) (by decide +kernel), by decide +kernel⟩
theorem wd_12 : (Cond.classLink "EditorCoreLaw" 7 "EditorCore") ∈ lw_t2 := List.mem_filter.mpr ⟨List.mem_of_getElem? (i := 63) (by decide +kernel), by decide +kernel⟩
theorem wd_13 : (Cond.instantiable "EditorCore" 12) ∈ lw_t2 := List.mem_filter.mpr ⟨List.mem_of_getElem? (i := 64) (by decide +kernel), by decide +kernel⟩
theorem wd_14 : (Cond.methodLink "EditorCoreLaw" 9 ⟨"EditorCore", "<init>", "()V"⟩) ∈ lw_t2 := List.mem_filter.mpr ⟨List.mem_of_getElem? (i := 65) (by decide +kernel), by decide +kernel⟩
theorem wd_15 : (Cond.instanceMethod ⟨"EditorCore", "<init>", "()V"⟩) ∈ lw_t2 := List.mem_filter.mpr ⟨List.mem_of_getElem? (i := 66) (by decide +kernel), by decide +kernel⟩
theorem wd_16 : (Cond.code ⟨"EditorCore", "<init>", "()V"⟩ prog_1_method_1_code 1 none) ∈ lw_t2 := List.mem_filter.mpr ⟨List.mem_of_getElem? (i := 67) (by decide +kernel), by decide +kernel⟩
theorem wd_17 : (Cond.methodLink "EditorCore" 1 ⟨"java/lang/Object", "<init>", "()V"⟩) ∈ lw_t2 := List.mem_filter.mpr ⟨List.mem_of_getElem? (i := 68) (by decide +kernel), by decide +kernel⟩
theorem wd_18 : (Cond.instanceMethod ⟨"java/lang/Object", "<init>", "()V"⟩) ∈ lw_t2 := List.mem_filter.mpr ⟨List.mem_of_getElem? (i := 69) (by decide +kernel), by decide +kernel⟩
theorem wd_19 : (Cond.code ⟨"java/lang/Object", "<init>", "()V"⟩ object_method_1_code 1 none) ∈ lw_t2 := List.mem_filter.mpr ⟨List.mem_of_getElem? (i := 70) (by decide +kernel), by decide +kernel⟩
theorem wd_20 : (Cond.classLink "EditorCore" 7 "EditorCore$Text") ∈ lw_t2 := List.mem_filter.mpr ⟨List.mem_of_getElem? (i := 71) (by decide +kernel), by decide +kernel⟩
theorem wd_21 : (Cond.instantiable "EditorCore$Text" 4) ∈ lw_t2 := List.mem_filter.mpr ⟨List.mem_of_getElem? (i := 72) (by decide +kernel), by decide +kernel⟩
theorem wd_22 : (Cond.methodLink "EditorCore" 9 ⟨"EditorCore$Text", "<init>", "()V"⟩) ∈ lw_t2 := List.mem_filter.mpr ⟨List.mem_of_getElem? (i := 73) (by decide +kernel), by decide +kernel⟩
theorem wd_23 : (Cond.instanceMethod ⟨"EditorCore$Text", "<init>", "()V"⟩) ∈ lw_t2 := List.mem_filter.mpr ⟨List.mem_of_getElem? (i := 74) (by decide +kernel), by decide +kernel⟩
theorem wd_24 : (Cond.code ⟨"EditorCore$Text", "<init>", "()V"⟩ prog_7_method_1_code 2 none) ∈ lw_t2 := List.mem_filter.mpr ⟨List.mem_of_getElem? (i := 75) (by decide +kernel), by decide +kernel⟩
theorem wd_25 : (Cond.methodLink "EditorCore$Text" 3 ⟨"java/lang/Object", "<init>", "()V"⟩) ∈ lw_t2 := List.mem_filter.mpr ⟨List.mem_of_getElem? (i := 76) (by decide +kernel), by decide +kernel⟩
theorem wd_26 : (Cond.classLink "EditorCore$Text" 9 "EditorCore$Letters") ∈ lw_t2 := List.mem_filter.mpr ⟨List.mem_of_getElem? (i := 77) (by decide +kernel), by decide +kernel⟩
theorem wd_27 : (Cond.instantiable "EditorCore$Letters" 2) ∈ lw_t2 := List.mem_filter.mpr ⟨List.mem_of_getElem? (i := 78) (by decide +kernel), by decide +kernel⟩
theorem wd_28 : (Cond.methodLink "EditorCore$Text" 11 ⟨"EditorCore$Letters", "<init>", "()V"⟩) ∈ lw_t2 := List.mem_filter.mpr ⟨List.mem_of_getElem? (i := 79) (by decide +kernel), by decide +kernel⟩
theorem wd_29 : (Cond.instanceMethod ⟨"EditorCore$Letters", "<init>", "()V"⟩) ∈ lw_t2 := List.mem_filter.mpr ⟨List.mem_of_getElem? (i := 80) (by decide +kernel), by decide +kernel⟩
theorem wd_30 : (Cond.code ⟨"EditorCore$Letters", "<init>", "()V"⟩ prog_6_method_1_code 1 none) ∈ lw_t2 := List.mem_filter.mpr ⟨List.mem_of_getElem? (i := 81) (by decide +kernel), by decide +kernel⟩
theorem wd_31 : (Cond.methodLink "EditorCore$Letters" 3 ⟨"java/lang/Object", "<init>", "()V"⟩) ∈ lw_t2 := List.mem_filter.mpr ⟨List.mem_of_getElem? (i := 82) (by decide +kernel), by decide +kernel⟩
theorem wd_32 : (Cond.fieldLink "EditorCore$Letters" 9 "EditorCore$Letters" "codes" "[I") ∈ lw_t2 := List.mem_filter.mpr ⟨List.mem_of_getElem? (i := 83) (by decide +kernel), by decide +kernel⟩
theorem wd_33 : (Cond.fieldLink "EditorCore$Text" 30 "EditorCore$Letters" "codes" "[I") ∈ lw_t2 := List.mem_filter.mpr ⟨List.mem_of_getElem? (i := 84) (by decide +kernel), by decide +kernel⟩
theorem wd_34 : (Cond.fieldLink "EditorCore$Window" 26 "EditorCore$Letters" "codes" "[I") ∈ lw_t2 := List.mem_filter.mpr ⟨List.mem_of_getElem? (i := 85) (by decide +kernel), by decide +kernel⟩
theorem wd_35 : (Cond.fieldLink "EditorCore" 126 "EditorCore$Letters" "codes" "[I") ∈ lw_t2 := List.mem_filter.mpr ⟨List.mem_of_getElem? (i := 86) (by decide +kernel), by decide +kernel⟩
theorem wd_36 : (Cond.fieldLink "EditorCore$Letters" 15 "EditorCore$Letters" "size" "I") ∈ lw_t2 := List.mem_filter.mpr ⟨List.mem_of_getElem? (i := 87) (by decide +kernel), by decide +kernel⟩
theorem wd_37 : (Cond.fieldLink "EditorCore$Text" 26 "EditorCore$Letters" "size" "I") ∈ lw_t2 := List.mem_filter.mpr ⟨List.mem_of_getElem? (i := 88) (by decide +kernel), by decide +kernel⟩
theorem wd_38 : (Cond.fieldLink "EditorCore$Window" 21 "EditorCore$Letters" "size" "I") ∈ lw_t2 := List.mem_filter.mpr ⟨List.mem_of_getElem? (i := 89) (by decide +kernel), by decide +kernel⟩
theorem wd_39 : (Cond.fieldLink "EditorCore$History" 45 "EditorCore$Letters" "size" "I") ∈ lw_t2 := List.mem_filter.mpr ⟨List.mem_of_getElem? (i := 90) (by decide +kernel), by decide +kernel⟩
theorem wd_40 : (Cond.fieldLink "EditorCore" 125 "EditorCore$Letters" "size" "I") ∈ lw_t2 := List.mem_filter.mpr ⟨List.mem_of_getElem? (i := 91) (by decide +kernel), by decide +kernel⟩
theorem wd_41 : (Cond.laysFinal "EditorCore$Letters" "EditorCore$Letters" "codes" "[I") ∈ lw_t2 := List.mem_filter.mpr ⟨List.mem_of_getElem? (i := 92) (by decide +kernel), by decide +kernel⟩
theorem wd_43 : (Cond.lays "EditorCore$Letters" "EditorCore$Letters" "size" "I") ∈ lw_t2 := List.mem_filter.mpr ⟨List.mem_of_getElem? (i := 94) (by decide +kernel), by decide +kernel⟩
theorem wd_46 : (Cond.arrayClass FieldType.int) ∈ lw_t2 := List.mem_filter.mpr ⟨List.mem_of_getElem? (i := 97) (by decide +kernel), by decide +kernel⟩
theorem wd_47 : (Cond.fieldLink "EditorCore$Text" 12 "EditorCore$Text" "body" "LEditorCore$Letters;") ∈ lw_t2 := List.mem_filter.mpr ⟨List.mem_of_getElem? (i := 98) (by decide +kernel), by decide +kernel⟩
theorem wd_48 : (Cond.fieldLink "EditorCore$Window" 30 "EditorCore$Text" "body" "LEditorCore$Letters;") ∈ lw_t2 := List.mem_filter.mpr ⟨List.mem_of_getElem? (i := 99) (by decide +kernel), by decide +kernel⟩
theorem wd_49 : (Cond.fieldLink "EditorCore$History" 51 "EditorCore$Text" "body" "LEditorCore$Letters;") ∈ lw_t2 := List.mem_filter.mpr ⟨List.mem_of_getElem? (i := 100) (by decide +kernel), by decide +kernel⟩
theorem wd_50 : (Cond.fieldLink "EditorCore" 122 "EditorCore$Text" "body" "LEditorCore$Letters;") ∈ lw_t2 := List.mem_filter.mpr ⟨List.mem_of_getElem? (i := 101) (by decide +kernel), by decide +kernel⟩
theorem wd_51 : (Cond.fieldLink "EditorCore$Text" 18 "EditorCore$Text" "places" "[I") ∈ lw_t2 := List.mem_filter.mpr ⟨List.mem_of_getElem? (i := 102) (by decide +kernel), by decide +kernel⟩
theorem wd_52 : (Cond.fieldLink "EditorCore" 108 "EditorCore$Text" "places" "[I") ∈ lw_t2 := List.mem_filter.mpr ⟨List.mem_of_getElem? (i := 103) (by decide +kernel), by decide +kernel⟩
theorem wd_53 : (Cond.fieldLink "EditorCore$Text" 22 "EditorCore$Text" "following" "[Z") ∈ lw_t2 := List.mem_filter.mpr ⟨List.mem_of_getElem? (i := 104) (by decide +kernel), by decide +kernel⟩
theorem wd_54 : (Cond.fieldLink "EditorCore" 115 "EditorCore$Text" "following" "[Z") ∈ lw_t2 := List.mem_filter.mpr ⟨List.mem_of_getElem? (i := 105) (by decide +kernel), by decide +kernel⟩
theorem wd_55 : (Cond.fieldLink "EditorCore$Window" 36 "EditorCore$Text" "point" "I") ∈ lw_t2 := List.mem_filter.mpr ⟨List.mem_of_getElem? (i := 106) (by decide +kernel), by decide +kernel⟩
theorem wd_56 : (Cond.fieldLink "EditorCore" 112 "EditorCore$Text" "point" "I") ∈ lw_t2 := List.mem_filter.mpr ⟨List.mem_of_getElem? (i := 107) (by decide +kernel), by decide +kernel⟩
theorem wd_57 : (Cond.laysFinal "EditorCore$Text" "EditorCore$Text" "body" "LEditorCore$Letters;") ∈ lw_t2 := List.mem_filter.mpr ⟨List.mem_of_getElem? (i := 108) (by decide +kernel), by decide +kernel⟩
theorem wd_59 : (Cond.laysFinal "EditorCore$Text" "EditorCore$Text" "places" "[I") ∈ lw_t2 := List.mem_filter.mpr ⟨List.mem_of_getElem? (i := 110) (by decide +kernel), by decide +kernel⟩
theorem wd_61 : (Cond.laysFinal "EditorCore$Text" "EditorCore$Text" "following" "[Z") ∈ lw_t2 := List.mem_filter.mpr ⟨List.mem_of_getElem? (i := 112) (by decide +kernel), by decide +kernel⟩
theorem wd_63 : (Cond.lays "EditorCore$Text" "EditorCore$Text" "point" "I") ∈ lw_t2 := List.mem_filter.mpr ⟨List.mem_of_getElem? (i := 114) (by decide +kernel), by decide +kernel⟩
theorem wd_66 : (Cond.arrayClass FieldType.boolean) ∈ lw_t2 := List.mem_filter.mpr ⟨List.mem_of_getElem? (i := 117) (by decide +kernel), by decide +kernel⟩
theorem wd_67 : (Cond.classLink "EditorCore" 16 "EditorCore$Kills") ∈ lw_t2 := List.mem_filter.mpr ⟨List.mem_of_getElem? (i := 118) (by decide +kernel), by decide +kernel⟩
theorem wd_68 : (Cond.instantiable "EditorCore$Kills" 2) ∈ lw_t2 := List.mem_filter.mpr ⟨List.mem_of_getElem? (i := 119) (by decide +kernel), by decide +kernel⟩
theorem wd_69 : (Cond.methodLink "EditorCore" 18 ⟨"EditorCore$Kills", "<init>", "()V"⟩) ∈ lw_t2 := List.mem_filter.mpr ⟨List.mem_of_getElem? (i := 120) (by decide +kernel), by decide +kernel⟩
theorem wd_70 : (Cond.instanceMethod ⟨"EditorCore$Kills", "<init>", "()V"⟩) ∈ lw_t2 := List.mem_filter.mpr ⟨List.mem_of_getElem? (i := 121) (by decide +kernel), by decide +kernel⟩
theorem wd_71 : (Cond.code ⟨"EditorCore$Kills", "<init>", "()V"⟩ prog_5_method_1_code 2 none) ∈ lw_t2 := List.mem_filter.mpr ⟨List.mem_of_getElem? (i := 122) (by decide +kernel), by decide +kernel⟩
theorem wd_72 : (Cond.methodLink "EditorCore$Kills" 1 ⟨"java/lang/Object", "<init>", "()V"⟩) ∈ lw_t2 := List.mem_filter.mpr ⟨List.mem_of_getElem? (i := 123) (by decide +kernel), by decide +kernel⟩
theorem wd_73 : (Cond.classLink "EditorCore$Kills" 9 "EditorCore$Letters") ∈ lw_t2 := List.mem_filter.mpr ⟨List.mem_of_getElem? (i := 124) (by decide +kernel), by decide +kernel⟩
theorem wd_75 : (Cond.methodLink "EditorCore$Kills" 15 ⟨"EditorCore$Letters", "<init>", "()V"⟩) ∈ lw_t2 := List.mem_filter.mpr ⟨List.mem_of_getElem? (i := 126) (by decide +kernel), by decide +kernel⟩
theorem wd_76 : (Cond.fieldLink "EditorCore$Kills" 11 "EditorCore$Kills" "rows" "[LEditorCore$Letters;") ∈ lw_t2 := List.mem_filter.mpr ⟨List.mem_of_getElem? (i := 127) (by decide +kernel), by decide +kernel⟩
theorem wd_77 : (Cond.fieldLink "EditorCore" 132 "EditorCore$Kills" "rows" "[LEditorCore$Letters;") ∈ lw_t2 := List.mem_filter.mpr ⟨List.mem_of_getElem? (i := 128) (by decide +kernel), by decide +kernel⟩
theorem wd_78 : (Cond.fieldLink "EditorCore$Kills" 26 "EditorCore$Kills" "count" "I") ∈ lw_t2 := List.mem_filter.mpr ⟨List.mem_of_getElem? (i := 129) (by decide +kernel), by decide +kernel⟩
theorem wd_79 : (Cond.fieldLink "EditorCore" 129 "EditorCore$Kills" "count" "I") ∈ lw_t2 := List.mem_filter.mpr ⟨List.mem_of_getElem? (i := 130) (by decide +kernel), by decide +kernel⟩
theorem wd_80 : (Cond.laysFinal "EditorCore$Kills" "EditorCore$Kills" "rows" "[LEditorCore$Letters;") ∈ lw_t2 := List.mem_filter.mpr ⟨List.mem_of_getElem? (i := 131) (by decide +kernel), by decide +kernel⟩
theorem wd_82 : (Cond.lays "EditorCore$Kills" "EditorCore$Kills" "count" "I") ∈ lw_t2 := List.mem_filter.mpr ⟨List.mem_of_getElem? (i := 133) (by decide +kernel), by decide +kernel⟩
theorem wd_85 : (Cond.classLink "EditorCore" 23 "EditorCore$History") ∈ lw_t2 := List.mem_filter.mpr ⟨List.mem_of_getElem? (i := 136) (by decide +kernel), by decide +kernel⟩
theorem wd_86 : (Cond.instantiable "EditorCore$History" 4) ∈ lw_t2 := List.mem_filter.mpr ⟨List.mem_of_getElem? (i := 137) (by decide +kernel), by decide +kernel⟩
theorem wd_87 : (Cond.methodLink "EditorCore" 25 ⟨"EditorCore$History", "<init>", "()V"⟩) ∈ lw_t2 := List.mem_filter.mpr ⟨List.mem_of_getElem? (i := 138) (by decide +kernel), by decide +kernel⟩
theorem wd_88 : (Cond.instanceMethod ⟨"EditorCore$History", "<init>", "()V"⟩) ∈ lw_t2 := List.mem_filter.mpr ⟨List.mem_of_getElem? (i := 139) (by decide +kernel), by decide +kernel⟩
theorem wd_89 : (Cond.code ⟨"EditorCore$History", "<init>", "()V"⟩ prog_3_method_1_code 2 none) ∈ lw_t2 := List.mem_filter.mpr ⟨List.mem_of_getElem? (i := 140) (by decide +kernel), by decide +kernel⟩
theorem wd_90 : (Cond.methodLink "EditorCore$History" 3 ⟨"java/lang/Object", "<init>", "()V"⟩) ∈ lw_t2 := List.mem_filter.mpr ⟨List.mem_of_getElem? (i := 141) (by decide +kernel), by decide +kernel⟩
theorem wd_91 : (Cond.classLink "EditorCore$History" 18 "EditorCore$Letters") ∈ lw_t2 := List.mem_filter.mpr ⟨List.mem_of_getElem? (i := 142) (by decide +kernel), by decide +kernel⟩
theorem wd_92 : (Cond.methodLink "EditorCore$History" 24 ⟨"EditorCore$Letters", "<init>", "()V"⟩) ∈ lw_t2 := List.mem_filter.mpr ⟨List.mem_of_getElem? (i := 143) (by decide +kernel), by decide +kernel⟩
theorem wd_93 : (Cond.fieldLink "EditorCore$History" 11 "EditorCore$History" "at" "[I") ∈ lw_t2 := List.mem_filter.mpr ⟨List.mem_of_getElem? (i := 144) (by decide +kernel), by decide +kernel⟩
theorem wd_94 : (Cond.fieldLink "EditorCore" 278 "EditorCore$History" "at" "[I") ∈ lw_t2 := List.mem_filter.mpr ⟨List.mem_of_getElem? (i := 145) (by decide +kernel), by decide +kernel⟩
theorem wd_95 : (Cond.fieldLink "EditorCore$History" 15 "EditorCore$History" "putIn" "[I") ∈ lw_t2 := List.mem_filter.mpr ⟨List.mem_of_getElem? (i := 146) (by decide +kernel), by decide +kernel⟩
theorem wd_96 : (Cond.fieldLink "EditorCore" 288 "EditorCore$History" "putIn" "[I") ∈ lw_t2 := List.mem_filter.mpr ⟨List.mem_of_getElem? (i := 147) (by decide +kernel), by decide +kernel⟩
theorem wd_97 : (Cond.fieldLink "EditorCore$History" 20 "EditorCore$History" "takenOut" "[LEditorCore$Letters;") ∈ lw_t2 := List.mem_filter.mpr ⟨List.mem_of_getElem? (i := 148) (by decide +kernel), by decide +kernel⟩
theorem wd_98 : (Cond.fieldLink "EditorCore" 281 "EditorCore$History" "takenOut" "[LEditorCore$Letters;") ∈ lw_t2 := List.mem_filter.mpr ⟨List.mem_of_getElem? (i := 149) (by decide +kernel), by decide +kernel⟩
theorem wd_99 : (Cond.fieldLink "EditorCore$History" 31 "EditorCore$History" "made" "I") ∈ lw_t2 := List.mem_filter.mpr ⟨List.mem_of_getElem? (i := 150) (by decide +kernel), by decide +kernel⟩
theorem wd_100 : (Cond.fieldLink "EditorCore" 152 "EditorCore$History" "made" "I") ∈ lw_t2 := List.mem_filter.mpr ⟨List.mem_of_getElem? (i := 151) (by decide +kernel), by decide +kernel⟩
theorem wd_101 : (Cond.laysFinal "EditorCore$History" "EditorCore$History" "at" "[I") ∈ lw_t2 := List.mem_filter.mpr ⟨List.mem_of_getElem? (i := 152) (by decide +kernel), by decide +kernel⟩
theorem wd_103 : (Cond.laysFinal "EditorCore$History" "EditorCore$History" "putIn" "[I") ∈ lw_t2 := List.mem_filter.mpr ⟨List.mem_of_getElem? (i := 154) (by decide +kernel), by decide +kernel⟩
theorem wd_105 : (Cond.laysFinal "EditorCore$History" "EditorCore$History" "takenOut" "[LEditorCore$Letters;") ∈ lw_t2 := List.mem_filter.mpr ⟨List.mem_of_getElem? (i := 156) (by decide +kernel), by decide +kernel⟩
theorem wd_107 : (Cond.lays "EditorCore$History" "EditorCore$History" "made" "I") ∈ lw_t2 := List.mem_filter.mpr ⟨List.mem_of_getElem? (i := 158) (by decide +kernel), by decide +kernel⟩
theorem wd_110 : (Cond.classLink "EditorCore" 30 "EditorCore$Keys") ∈ lw_t2 := List.mem_filter.mpr ⟨List.mem_of_getElem? (i := 161) (by decide +kernel), by decide +kernel⟩
theorem wd_111 : (Cond.instantiable "EditorCore$Keys" 4) ∈ lw_t2 := List.mem_filter.mpr ⟨List.mem_of_getElem? (i := 162) (by decide +kernel), by decide +kernel⟩
theorem wd_112 : (Cond.methodLink "EditorCore" 32 ⟨"EditorCore$Keys", "<init>", "()V"⟩) ∈ lw_t2 := List.mem_filter.mpr ⟨List.mem_of_getElem? (i := 163) (by decide +kernel), by decide +kernel⟩
theorem wd_113 : (Cond.instanceMethod ⟨"EditorCore$Keys", "<init>", "()V"⟩) ∈ lw_t2 := List.mem_filter.mpr ⟨List.mem_of_getElem? (i := 164) (by decide +kernel), by decide +kernel⟩
theorem wd_114 : (Cond.code ⟨"EditorCore$Keys", "<init>", "()V"⟩ prog_4_method_1_code 1 none) ∈ lw_t2 := List.mem_filter.mpr ⟨List.mem_of_getElem? (i := 165) (by decide +kernel), by decide +kernel⟩
theorem wd_115 : (Cond.methodLink "EditorCore$Keys" 5 ⟨"java/lang/Object", "<init>", "()V"⟩) ∈ lw_t2 := List.mem_filter.mpr ⟨List.mem_of_getElem? (i := 166) (by decide +kernel), by decide +kernel⟩
theorem wd_116 : (Cond.fieldLink "EditorCore$Keys" 11 "EditorCore$Keys" "bound" "[I") ∈ lw_t2 := List.mem_filter.mpr ⟨List.mem_of_getElem? (i := 167) (by decide +kernel), by decide +kernel⟩
theorem wd_117 : (Cond.fieldLink "EditorCore$Keys" 15 "EditorCore$Keys" "called" "[I") ∈ lw_t2 := List.mem_filter.mpr ⟨List.mem_of_getElem? (i := 168) (by decide +kernel), by decide +kernel⟩
theorem wd_118 : (Cond.fieldLink "EditorCore$Keys" 26 "EditorCore$Keys" "count" "I") ∈ lw_t2 := List.mem_filter.mpr ⟨List.mem_of_getElem? (i := 169) (by decide +kernel), by decide +kernel⟩
theorem wd_119 : (Cond.fieldLink "EditorCore" 158 "EditorCore$Keys" "count" "I") ∈ lw_t2 := List.mem_filter.mpr ⟨List.mem_of_getElem? (i := 170) (by decide +kernel), by decide +kernel⟩
theorem wd_120 : (Cond.fieldLink "EditorCore$Keys" 22 "EditorCore$Keys" "pending" "I") ∈ lw_t2 := List.mem_filter.mpr ⟨List.mem_of_getElem? (i := 171) (by decide +kernel), by decide +kernel⟩
theorem wd_121 : (Cond.laysFinal "EditorCore$Keys" "EditorCore$Keys" "bound" "[I") ∈ lw_t2 := List.mem_filter.mpr ⟨List.mem_of_getElem? (i := 172) (by decide +kernel), by decide +kernel⟩
theorem wd_123 : (Cond.laysFinal "EditorCore$Keys" "EditorCore$Keys" "called" "[I") ∈ lw_t2 := List.mem_filter.mpr ⟨List.mem_of_getElem? (i := 174) (by decide +kernel), by decide +kernel⟩
theorem wd_125 : (Cond.lays "EditorCore$Keys" "EditorCore$Keys" "count" "I") ∈ lw_t2 := List.mem_filter.mpr ⟨List.mem_of_getElem? (i := 176) (by decide +kernel), by decide +kernel⟩
theorem wd_127 : (Cond.lays "EditorCore$Keys" "EditorCore$Keys" "pending" "I") ∈ lw_t2 := List.mem_filter.mpr ⟨List.mem_of_getElem? (i := 178) (by decide +kernel), by decide +kernel⟩
theorem wd_130 : (Cond.classLink "EditorCore" 37 "EditorCore$Events") ∈ lw_t2 := List.mem_filter.mpr ⟨List.mem_of_getElem? (i := 181) (by decide +kernel), by decide +kernel⟩
theorem wd_131 : (Cond.instantiable "EditorCore$Events" 4) ∈ lw_t2 := List.mem_filter.mpr ⟨List.mem_of_getElem? (i := 182) (by decide +kernel), by decide +kernel⟩
theorem wd_132 : (Cond.methodLink "EditorCore" 39 ⟨"EditorCore$Events", "<init>", "()V"⟩) ∈ lw_t2 := List.mem_filter.mpr ⟨List.mem_of_getElem? (i := 183) (by decide +kernel), by decide +kernel⟩
theorem wd_133 : (Cond.instanceMethod ⟨"EditorCore$Events", "<init>", "()V"⟩) ∈ lw_t2 := List.mem_filter.mpr ⟨List.mem_of_getElem? (i := 184) (by decide +kernel), by decide +kernel⟩
theorem wd_134 : (Cond.code ⟨"EditorCore$Events", "<init>", "()V"⟩ prog_2_method_1_code 1 none) ∈ lw_t2 := List.mem_filter.mpr ⟨List.mem_of_getElem? (i := 185) (by decide +kernel), by decide +kernel⟩
theorem wd_135 : (Cond.methodLink "EditorCore$Events" 1 ⟨"java/lang/Object", "<init>", "()V"⟩) ∈ lw_t2 := List.mem_filter.mpr ⟨List.mem_of_getElem? (i := 186) (by decide +kernel), by decide +kernel⟩
theorem wd_136 : (Cond.fieldLink "EditorCore$Events" 9 "EditorCore$Events" "codes" "[I") ∈ lw_t2 := List.mem_filter.mpr ⟨List.mem_of_getElem? (i := 187) (by decide +kernel), by decide +kernel⟩
theorem wd_137 : (Cond.fieldLink "EditorCore" 180 "EditorCore$Events" "codes" "[I") ∈ lw_t2 := List.mem_filter.mpr ⟨List.mem_of_getElem? (i := 188) (by decide +kernel), by decide +kernel⟩
theorem wd_138 : (Cond.fieldLink "EditorCore$Events" 13 "EditorCore$Events" "typed" "[Z") ∈ lw_t2 := List.mem_filter.mpr ⟨List.mem_of_getElem? (i := 189) (by decide +kernel), by decide +kernel⟩
theorem wd_139 : (Cond.fieldLink "EditorCore" 181 "EditorCore$Events" "typed" "[Z") ∈ lw_t2 := List.mem_filter.mpr ⟨List.mem_of_getElem? (i := 190) (by decide +kernel), by decide +kernel⟩
theorem wd_140 : (Cond.fieldLink "EditorCore$Events" 21 "EditorCore$Events" "size" "I") ∈ lw_t2 := List.mem_filter.mpr ⟨List.mem_of_getElem? (i := 191) (by decide +kernel), by decide +kernel⟩
theorem wd_141 : (Cond.fieldLink "EditorCore" 105 "EditorCore$Events" "size" "I") ∈ lw_t2 := List.mem_filter.mpr ⟨List.mem_of_getElem? (i := 192) (by decide +kernel), by decide +kernel⟩
theorem wd_142 : (Cond.fieldLink "EditorCore$Events" 17 "EditorCore$Events" "recorded" "Z") ∈ lw_t2 := List.mem_filter.mpr ⟨List.mem_of_getElem? (i := 193) (by decide +kernel), by decide +kernel⟩
theorem wd_143 : (Cond.fieldLink "EditorCore" 101 "EditorCore$Events" "recorded" "Z") ∈ lw_t2 := List.mem_filter.mpr ⟨List.mem_of_getElem? (i := 194) (by decide +kernel), by decide +kernel⟩
theorem wd_144 : (Cond.laysFinal "EditorCore$Events" "EditorCore$Events" "codes" "[I") ∈ lw_t2 := List.mem_filter.mpr ⟨List.mem_of_getElem? (i := 195) (by decide +kernel), by decide +kernel⟩
theorem wd_146 : (Cond.laysFinal "EditorCore$Events" "EditorCore$Events" "typed" "[Z") ∈ lw_t2 := List.mem_filter.mpr ⟨List.mem_of_getElem? (i := 197) (by decide +kernel), by decide +kernel⟩
theorem wd_148 : (Cond.lays "EditorCore$Events" "EditorCore$Events" "size" "I") ∈ lw_t2 := List.mem_filter.mpr ⟨List.mem_of_getElem? (i := 199) (by decide +kernel), by decide +kernel⟩
theorem wd_150 : (Cond.lays "EditorCore$Events" "EditorCore$Events" "recorded" "Z") ∈ lw_t2 := List.mem_filter.mpr ⟨List.mem_of_getElem? (i := 201) (by decide +kernel), by decide +kernel⟩
theorem wd_153 : (Cond.classLink "EditorCore" 44 "EditorCore$Window") ∈ lw_t2 := List.mem_filter.mpr ⟨List.mem_of_getElem? (i := 204) (by decide +kernel), by decide +kernel⟩
theorem wd_154 : (Cond.instantiable "EditorCore$Window" 3) ∈ lw_t2 := List.mem_filter.mpr ⟨List.mem_of_getElem? (i := 205) (by decide +kernel), by decide +kernel⟩
theorem wd_155 : (Cond.methodLink "EditorCore" 46 ⟨"EditorCore$Window", "<init>", "()V"⟩) ∈ lw_t2 := List.mem_filter.mpr ⟨List.mem_of_getElem? (i := 206) (by decide +kernel), by decide +kernel⟩
theorem wd_156 : (Cond.instanceMethod ⟨"EditorCore$Window", "<init>", "()V"⟩) ∈ lw_t2 := List.mem_filter.mpr ⟨List.mem_of_getElem? (i := 207) (by decide +kernel), by decide +kernel⟩
theorem wd_157 : (Cond.code ⟨"EditorCore$Window", "<init>", "()V"⟩ prog_8_method_1_code 1 none) ∈ lw_t2 := List.mem_filter.mpr ⟨List.mem_of_getElem? (i := 208) (by decide +kernel), by decide +kernel⟩
theorem wd_158 : (Cond.methodLink "EditorCore$Window" 3 ⟨"java/lang/Object", "<init>", "()V"⟩) ∈ lw_t2 := List.mem_filter.mpr ⟨List.mem_of_getElem? (i := 209) (by decide +kernel), by decide +kernel⟩
theorem wd_159 : (Cond.fieldLink "EditorCore$Window" 9 "EditorCore$Window" "columns" "I") ∈ lw_t2 := List.mem_filter.mpr ⟨List.mem_of_getElem? (i := 210) (by decide +kernel), by decide +kernel⟩
theorem wd_160 : (Cond.fieldLink "EditorCore" 138 "EditorCore$Window" "columns" "I") ∈ lw_t2 := List.mem_filter.mpr ⟨List.mem_of_getElem? (i := 211) (by decide +kernel), by decide +kernel⟩
theorem wd_161 : (Cond.fieldLink "EditorCore$Window" 15 "EditorCore$Window" "rows" "I") ∈ lw_t2 := List.mem_filter.mpr ⟨List.mem_of_getElem? (i := 212) (by decide +kernel), by decide +kernel⟩
theorem wd_162 : (Cond.fieldLink "EditorCore" 136 "EditorCore$Window" "rows" "I") ∈ lw_t2 := List.mem_filter.mpr ⟨List.mem_of_getElem? (i := 213) (by decide +kernel), by decide +kernel⟩
theorem wd_163 : (Cond.fieldLink "EditorCore$Window" 18 "EditorCore$Window" "firstRow" "I") ∈ lw_t2 := List.mem_filter.mpr ⟨List.mem_of_getElem? (i := 214) (by decide +kernel), by decide +kernel⟩
theorem wd_164 : (Cond.fieldLink "EditorCore" 145 "EditorCore$Window" "firstRow" "I") ∈ lw_t2 := List.mem_filter.mpr ⟨List.mem_of_getElem? (i := 215) (by decide +kernel), by decide +kernel⟩
theorem wd_165 : (Cond.lays "EditorCore$Window" "EditorCore$Window" "columns" "I") ∈ lw_t2 := List.mem_filter.mpr ⟨List.mem_of_getElem? (i := 216) (by decide +kernel), by decide +kernel⟩
theorem wd_167 : (Cond.lays "EditorCore$Window" "EditorCore$Window" "rows" "I") ∈ lw_t2 := List.mem_filter.mpr ⟨List.mem_of_getElem? (i := 218) (by decide +kernel), by decide +kernel⟩
theorem wd_169 : (Cond.lays "EditorCore$Window" "EditorCore$Window" "firstRow" "I") ∈ lw_t2 := List.mem_filter.mpr ⟨List.mem_of_getElem? (i := 220) (by decide +kernel), by decide +kernel⟩
theorem wd_172 : (Cond.classLink "EditorCore" 51 "EditorCore$Letters") ∈ lw_t2 := List.mem_filter.mpr ⟨List.mem_of_getElem? (i := 223) (by decide +kernel), by decide +kernel⟩
theorem wd_173 : (Cond.methodLink "EditorCore" 53 ⟨"EditorCore$Letters", "<init>", "()V"⟩) ∈ lw_t2 := List.mem_filter.mpr ⟨List.mem_of_getElem? (i := 224) (by decide +kernel), by decide +kernel⟩
theorem wd_174 : (Cond.fieldLink "EditorCore" 10 "EditorCore" "text" "LEditorCore$Text;") ∈ lw_t2 := List.mem_filter.mpr ⟨List.mem_of_getElem? (i := 225) (by decide +kernel), by decide +kernel⟩
theorem wd_175 : (Cond.fieldLink "EditorCore" 19 "EditorCore" "kills" "LEditorCore$Kills;") ∈ lw_t2 := List.mem_filter.mpr ⟨List.mem_of_getElem? (i := 226) (by decide +kernel), by decide +kernel⟩
theorem wd_176 : (Cond.fieldLink "EditorCore" 26 "EditorCore" "history" "LEditorCore$History;") ∈ lw_t2 := List.mem_filter.mpr ⟨List.mem_of_getElem? (i := 227) (by decide +kernel), by decide +kernel⟩
theorem wd_177 : (Cond.fieldLink "EditorCore" 33 "EditorCore" "keys" "LEditorCore$Keys;") ∈ lw_t2 := List.mem_filter.mpr ⟨List.mem_of_getElem? (i := 228) (by decide +kernel), by decide +kernel⟩
theorem wd_178 : (Cond.fieldLink "EditorCore" 40 "EditorCore" "events" "LEditorCore$Events;") ∈ lw_t2 := List.mem_filter.mpr ⟨List.mem_of_getElem? (i := 229) (by decide +kernel), by decide +kernel⟩
theorem wd_179 : (Cond.fieldLink "EditorCore" 47 "EditorCore" "window" "LEditorCore$Window;") ∈ lw_t2 := List.mem_filter.mpr ⟨List.mem_of_getElem? (i := 230) (by decide +kernel), by decide +kernel⟩
theorem wd_180 : (Cond.fieldLink "EditorCore" 54 "EditorCore" "draft" "LEditorCore$Letters;") ∈ lw_t2 := List.mem_filter.mpr ⟨List.mem_of_getElem? (i := 231) (by decide +kernel), by decide +kernel⟩
theorem wd_181 : (Cond.fieldLink "EditorCore" 58 "EditorCore" "times" "I") ∈ lw_t2 := List.mem_filter.mpr ⟨List.mem_of_getElem? (i := 232) (by decide +kernel), by decide +kernel⟩
theorem wd_182 : (Cond.fieldLink "EditorCore" 62 "EditorCore" "last" "I") ∈ lw_t2 := List.mem_filter.mpr ⟨List.mem_of_getElem? (i := 233) (by decide +kernel), by decide +kernel⟩
theorem wd_183 : (Cond.fieldLink "EditorCore" 259 "EditorCore" "goalColumn" "I") ∈ lw_t2 := List.mem_filter.mpr ⟨List.mem_of_getElem? (i := 234) (by decide +kernel), by decide +kernel⟩
theorem wd_184 : (Cond.fieldLink "EditorCore" 266 "EditorCore" "yanked" "I") ∈ lw_t2 := List.mem_filter.mpr ⟨List.mem_of_getElem? (i := 235) (by decide +kernel), by decide +kernel⟩
theorem wd_185 : (Cond.fieldLink "EditorCore" 269 "EditorCore" "undone" "I") ∈ lw_t2 := List.mem_filter.mpr ⟨List.mem_of_getElem? (i := 236) (by decide +kernel), by decide +kernel⟩
theorem wd_186 : (Cond.laysFinal "EditorCore" "EditorCore" "text" "LEditorCore$Text;") ∈ lw_t2 := List.mem_filter.mpr ⟨List.mem_of_getElem? (i := 237) (by decide +kernel), by decide +kernel⟩
theorem wd_188 : (Cond.laysFinal "EditorCore" "EditorCore" "kills" "LEditorCore$Kills;") ∈ lw_t2 := List.mem_filter.mpr ⟨List.mem_of_getElem? (i := 239) (by decide +kernel), by decide +kernel⟩
theorem wd_190 : (Cond.laysFinal "EditorCore" "EditorCore" "history" "LEditorCore$History;") ∈ lw_t2 := List.mem_filter.mpr ⟨List.mem_of_getElem? (i := 241) (by decide +kernel), by decide +kernel⟩
theorem wd_192 : (Cond.laysFinal "EditorCore" "EditorCore" "keys" "LEditorCore$Keys;") ∈ lw_t2 := List.mem_filter.mpr ⟨List.mem_of_getElem? (i := 243) (by decide +kernel), by decide +kernel⟩
theorem wd_194 : (Cond.laysFinal "EditorCore" "EditorCore" "events" "LEditorCore$Events;") ∈ lw_t2 := List.mem_filter.mpr ⟨List.mem_of_getElem? (i := 245) (by decide +kernel), by decide +kernel⟩
theorem wd_196 : (Cond.laysFinal "EditorCore" "EditorCore" "window" "LEditorCore$Window;") ∈ lw_t2 := List.mem_filter.mpr ⟨List.mem_of_getElem? (i := 247) (by decide +kernel), by decide +kernel⟩
theorem wd_198 : (Cond.laysFinal "EditorCore" "EditorCore" "draft" "LEditorCore$Letters;") ∈ lw_t2 := List.mem_filter.mpr ⟨List.mem_of_getElem? (i := 249) (by decide +kernel), by decide +kernel⟩
theorem wd_200 : (Cond.lays "EditorCore" "EditorCore" "times" "I") ∈ lw_t2 := List.mem_filter.mpr ⟨List.mem_of_getElem? (i := 251) (by decide +kernel), by decide +kernel⟩
theorem wd_202 : (Cond.lays "EditorCore" "EditorCore" "last" "I") ∈ lw_t2 := List.mem_filter.mpr ⟨List.mem_of_getElem? (i := 253) (by decide +kernel), by decide +kernel⟩
theorem wd_204 : (Cond.lays "EditorCore" "EditorCore" "goalColumn" "I") ∈ lw_t2 := List.mem_filter.mpr ⟨List.mem_of_getElem? (i := 255) (by decide +kernel), by decide +kernel⟩
theorem wd_206 : (Cond.lays "EditorCore" "EditorCore" "yanked" "I") ∈ lw_t2 := List.mem_filter.mpr ⟨List.mem_of_getElem? (i := 257) (by decide +kernel), by decide +kernel⟩
theorem wd_208 : (Cond.lays "EditorCore" "EditorCore" "undone" "I") ∈ lw_t2 := List.mem_filter.mpr ⟨List.mem_of_getElem? (i := 259) (by decide +kernel), by decide +kernel⟩
theorem wd_211 : (Cond.methodLink "EditorCoreLaw" 13 ⟨"EditorCore", "type", "(I)I"⟩) ∈ lw_t2 := List.mem_filter.mpr ⟨List.mem_of_getElem? (i := 262) (by decide +kernel), by decide +kernel⟩
theorem wd_212 : (Cond.instanceMethod ⟨"EditorCore", "type", "(I)I"⟩) ∈ lw_t2 := List.mem_filter.mpr ⟨List.mem_of_getElem? (i := 263) (by decide +kernel), by decide +kernel⟩
theorem wd_213 : (Cond.selects "EditorCore" ⟨"EditorCore", "type", "(I)I"⟩ ⟨"EditorCore", "type", "(I)I"⟩) ∈ lw_t2 := List.mem_filter.mpr ⟨List.mem_of_getElem? (i := 264) (by decide +kernel), by decide +kernel⟩
theorem wd_214 : (Cond.code ⟨"EditorCore", "type", "(I)I"⟩ prog_1_method_2_code 3 (some FieldType.int)) ∈ lw_t2 := List.mem_filter.mpr ⟨List.mem_of_getElem? (i := 265) (by decide +kernel), by decide +kernel⟩
theorem wd_215 : (Cond.methodLink "EditorCore" 65 ⟨"EditorCore", "isLetter", "(I)Z"⟩) ∈ lw_t2 := List.mem_filter.mpr ⟨List.mem_of_getElem? (i := 266) (by decide +kernel), by decide +kernel⟩
theorem wd_216 : (Cond.static ⟨"EditorCore", "isLetter", "(I)Z"⟩) ∈ lw_t2 := List.mem_filter.mpr ⟨List.mem_of_getElem? (i := 267) (by decide +kernel), by decide +kernel⟩
theorem wd_217 : (Cond.code ⟨"EditorCore", "isLetter", "(I)Z"⟩ prog_1_method_15_code 1 (some FieldType.boolean)) ∈ lw_t2 := List.mem_filter.mpr ⟨List.mem_of_getElem? (i := 268) (by decide +kernel), by decide +kernel⟩
theorem wd_218 : (Cond.methodLink "EditorCore" 69 ⟨"EditorCore", "insert", "(I)I"⟩) ∈ lw_t2 := List.mem_filter.mpr ⟨List.mem_of_getElem? (i := 269) (by decide +kernel), by decide +kernel⟩
theorem wd_220 : (Cond.instanceMethod ⟨"EditorCore", "insert", "(I)I"⟩) ∈ lw_t2 := List.mem_filter.mpr ⟨List.mem_of_getElem? (i := 271) (by decide +kernel), by decide +kernel⟩
theorem wd_221 : (Cond.code ⟨"EditorCore", "insert", "(I)I"⟩ prog_1_method_19_code 3 (some FieldType.int)) ∈ lw_t2 := List.mem_filter.mpr ⟨List.mem_of_getElem? (i := 272) (by decide +kernel), by decide +kernel⟩
theorem wd_222 : (Cond.methodLink "EditorCore" 163 ⟨"EditorCore$Letters", "clear", "()V"⟩) ∈ lw_t2 := List.mem_filter.mpr ⟨List.mem_of_getElem? (i := 273) (by decide +kernel), by decide +kernel⟩
theorem wd_223 : (Cond.instanceMethod ⟨"EditorCore$Letters", "clear", "()V"⟩) ∈ lw_t2 := List.mem_filter.mpr ⟨List.mem_of_getElem? (i := 274) (by decide +kernel), by decide +kernel⟩
theorem wd_224 : (Cond.selects "EditorCore$Letters" ⟨"EditorCore$Letters", "clear", "()V"⟩ ⟨"EditorCore$Letters", "clear", "()V"⟩) ∈ lw_t2 := List.mem_filter.mpr ⟨List.mem_of_getElem? (i := 275) (by decide +kernel), by decide +kernel⟩
theorem wd_225 : (Cond.code ⟨"EditorCore$Letters", "clear", "()V"⟩ prog_6_method_2_code 1 none) ∈ lw_t2 := List.mem_filter.mpr ⟨List.mem_of_getElem? (i := 276) (by decide +kernel), by decide +kernel⟩
theorem wd_226 : (Cond.methodLink "EditorCore" 166 ⟨"EditorCore$Letters", "add", "(I)V"⟩) ∈ lw_t2 := List.mem_filter.mpr ⟨List.mem_of_getElem? (i := 277) (by decide +kernel), by decide +kernel⟩
theorem wd_227 : (Cond.instanceMethod ⟨"EditorCore$Letters", "add", "(I)V"⟩) ∈ lw_t2 := List.mem_filter.mpr ⟨List.mem_of_getElem? (i := 278) (by decide +kernel), by decide +kernel⟩
theorem wd_228 : (Cond.selects "EditorCore$Letters" ⟨"EditorCore$Letters", "add", "(I)V"⟩ ⟨"EditorCore$Letters", "add", "(I)V"⟩) ∈ lw_t2 := List.mem_filter.mpr ⟨List.mem_of_getElem? (i := 279) (by decide +kernel), by decide +kernel⟩
theorem wd_229 : (Cond.code ⟨"EditorCore$Letters", "add", "(I)V"⟩ prog_6_method_3_code 2 none) ∈ lw_t2 := List.mem_filter.mpr ⟨List.mem_of_getElem? (i := 280) (by decide +kernel), by decide +kernel⟩
theorem wd_230 : (Cond.methodLink "EditorCore" 170 ⟨"EditorCore$History", "latestPut", "()I"⟩) ∈ lw_t2 := List.mem_filter.mpr ⟨List.mem_of_getElem? (i := 281) (by decide +kernel), by decide +kernel⟩
theorem wd_231 : (Cond.instanceMethod ⟨"EditorCore$History", "latestPut", "()I"⟩) ∈ lw_t2 := List.mem_filter.mpr ⟨List.mem_of_getElem? (i := 282) (by decide +kernel), by decide +kernel⟩
theorem wd_232 : (Cond.selects "EditorCore$History" ⟨"EditorCore$History", "latestPut", "()I"⟩ ⟨"EditorCore$History", "latestPut", "()I"⟩) ∈ lw_t2 := List.mem_filter.mpr ⟨List.mem_of_getElem? (i := 283) (by decide +kernel), by decide +kernel⟩
theorem wd_233 : (Cond.code ⟨"EditorCore$History", "latestPut", "()I"⟩ prog_3_method_4_code 1 (some FieldType.int)) ∈ lw_t2 := List.mem_filter.mpr ⟨List.mem_of_getElem? (i := 284) (by decide +kernel), by decide +kernel⟩
theorem wd_234 : (Cond.methodLink "EditorCore$History" 35 ⟨"EditorCore$History", "slotOf", "(I)I"⟩) ∈ lw_t2 := List.mem_filter.mpr ⟨List.mem_of_getElem? (i := 285) (by decide +kernel), by decide +kernel⟩
theorem wd_235 : (Cond.static ⟨"EditorCore$History", "slotOf", "(I)I"⟩) ∈ lw_t2 := List.mem_filter.mpr ⟨List.mem_of_getElem? (i := 286) (by decide +kernel), by decide +kernel⟩
theorem wd_236 : (Cond.code ⟨"EditorCore$History", "slotOf", "(I)I"⟩ prog_3_method_2_code 1 (some FieldType.int)) ∈ lw_t2 := List.mem_filter.mpr ⟨List.mem_of_getElem? (i := 287) (by decide +kernel), by decide +kernel⟩
theorem wd_237 : (Cond.methodLink "EditorCore$History" 25 ⟨"java/lang/Math", "floorMod", "(II)I"⟩) ∈ lw_t2 := List.mem_filter.mpr ⟨List.mem_of_getElem? (i := 288) (by decide +kernel), by decide +kernel⟩
theorem wd_238 : (Cond.static ⟨"java/lang/Math", "floorMod", "(II)I"⟩) ∈ lw_t2 := List.mem_filter.mpr ⟨List.mem_of_getElem? (i := 289) (by decide +kernel), by decide +kernel⟩
theorem wd_239 : (Cond.code ⟨"java/lang/Math", "floorMod", "(II)I"⟩ prog_11_method_50_code 3 (some FieldType.int)) ∈ lw_t2 := List.mem_filter.mpr ⟨List.mem_of_getElem? (i := 290) (by decide +kernel), by decide +kernel⟩
theorem wd_240 : (Cond.methodLink "EditorCore" 173 ⟨"EditorCore$History", "edit", "(LEditorCore$Text;IILEditorCore$Letters;Z)I"⟩) ∈ lw_t2 := List.mem_filter.mpr ⟨List.mem_of_getElem? (i := 291) (by decide +kernel), by decide +kernel⟩
theorem wd_241 : (Cond.instanceMethod ⟨"EditorCore$History", "edit", "(LEditorCore$Text;IILEditorCore$Letters;Z)I"⟩) ∈ lw_t2 := List.mem_filter.mpr ⟨List.mem_of_getElem? (i := 292) (by decide +kernel), by decide +kernel⟩
theorem wd_242 : (Cond.selects "EditorCore$History" ⟨"EditorCore$History", "edit", "(LEditorCore$Text;IILEditorCore$Letters;Z)I"⟩ ⟨"EditorCore$History", "edit", "(LEditorCore$Text;IILEditorCore$Letters;Z)I"⟩) ∈ lw_t2 := List.mem_filter.mpr ⟨List.mem_of_getElem? (i := 293) (by decide +kernel), by decide +kernel⟩
theorem wd_243 : (Cond.code ⟨"EditorCore$History", "edit", "(LEditorCore$Text;IILEditorCore$Letters;Z)I"⟩ prog_3_method_5_code 7 (some FieldType.int)) ∈ lw_t2 := List.mem_filter.mpr ⟨List.mem_of_getElem? (i := 294) (by decide +kernel), by decide +kernel⟩
theorem wd_244 : (Cond.methodLink "EditorCore$History" 39 ⟨"EditorCore$Text", "takes", "(IILEditorCore$Letters;)Z"⟩) ∈ lw_t2 := List.mem_filter.mpr ⟨List.mem_of_getElem? (i := 295) (by decide +kernel), by decide +kernel⟩
theorem wd_245 : (Cond.instanceMethod ⟨"EditorCore$Text", "takes", "(IILEditorCore$Letters;)Z"⟩) ∈ lw_t2 := List.mem_filter.mpr ⟨List.mem_of_getElem? (i := 296) (by decide +kernel), by decide +kernel⟩
theorem wd_246 : (Cond.selects "EditorCore$Text" ⟨"EditorCore$Text", "takes", "(IILEditorCore$Letters;)Z"⟩ ⟨"EditorCore$Text", "takes", "(IILEditorCore$Letters;)Z"⟩) ∈ lw_t2 := List.mem_filter.mpr ⟨List.mem_of_getElem? (i := 297) (by decide +kernel), by decide +kernel⟩
theorem wd_247 : (Cond.code ⟨"EditorCore$Text", "takes", "(IILEditorCore$Letters;)Z"⟩ prog_7_method_2_code 4 (some FieldType.boolean)) ∈ lw_t2 := List.mem_filter.mpr ⟨List.mem_of_getElem? (i := 298) (by decide +kernel), by decide +kernel⟩
theorem wd_248 : (Cond.methodLink "EditorCore$History" 48 ⟨"EditorCore$Letters", "clear", "()V"⟩) ∈ lw_t2 := List.mem_filter.mpr ⟨List.mem_of_getElem? (i := 299) (by decide +kernel), by decide +kernel⟩
theorem wd_249 : (Cond.methodLink "EditorCore$History" 55 ⟨"EditorCore$Letters", "append", "(LEditorCore$Letters;II)V"⟩) ∈ lw_t2 := List.mem_filter.mpr ⟨List.mem_of_getElem? (i := 300) (by decide +kernel), by decide +kernel⟩
theorem wd_250 : (Cond.instanceMethod ⟨"EditorCore$Letters", "append", "(LEditorCore$Letters;II)V"⟩) ∈ lw_t2 := List.mem_filter.mpr ⟨List.mem_of_getElem? (i := 301) (by decide +kernel), by decide +kernel⟩
theorem wd_251 : (Cond.selects "EditorCore$Letters" ⟨"EditorCore$Letters", "append", "(LEditorCore$Letters;II)V"⟩ ⟨"EditorCore$Letters", "append", "(LEditorCore$Letters;II)V"⟩) ∈ lw_t2 := List.mem_filter.mpr ⟨List.mem_of_getElem? (i := 302) (by decide +kernel), by decide +kernel⟩
theorem wd_252 : (Cond.code ⟨"EditorCore$Letters", "append", "(LEditorCore$Letters;II)V"⟩ prog_6_method_4_code 5 none) ∈ lw_t2 := List.mem_filter.mpr ⟨List.mem_of_getElem? (i := 303) (by decide +kernel), by decide +kernel⟩
theorem wd_253 : (Cond.methodLink "EditorCore$Letters" 19 ⟨"java/lang/System", "arraycopy", "(Ljava/lang/Object;ILjava/lang/Object;II)V"⟩) ∈ lw_t2 := List.mem_filter.mpr ⟨List.mem_of_getElem? (i := 304) (by decide +kernel), by decide +kernel⟩
theorem wd_254 : (Cond.static ⟨"java/lang/System", "arraycopy", "(Ljava/lang/Object;ILjava/lang/Object;II)V"⟩) ∈ lw_t2 := List.mem_filter.mpr ⟨List.mem_of_getElem? (i := 305) (by decide +kernel), by decide +kernel⟩
theorem wd_255 : (Cond.native ⟨"java/lang/System", "arraycopy", "(Ljava/lang/Object;ILjava/lang/Object;II)V"⟩) ∈ lw_t2 := List.mem_filter.mpr ⟨List.mem_of_getElem? (i := 306) (by decide +kernel), by decide +kernel⟩
theorem wd_256 : (Cond.methodLink "EditorCore$History" 59 ⟨"EditorCore$Text", "replace", "(IILEditorCore$Letters;)V"⟩) ∈ lw_t2 := List.mem_filter.mpr ⟨List.mem_of_getElem? (i := 307) (by decide +kernel), by decide +kernel⟩
theorem wd_257 : (Cond.instanceMethod ⟨"EditorCore$Text", "replace", "(IILEditorCore$Letters;)V"⟩) ∈ lw_t2 := List.mem_filter.mpr ⟨List.mem_of_getElem? (i := 308) (by decide +kernel), by decide +kernel⟩
theorem wd_258 : (Cond.selects "EditorCore$Text" ⟨"EditorCore$Text", "replace", "(IILEditorCore$Letters;)V"⟩ ⟨"EditorCore$Text", "replace", "(IILEditorCore$Letters;)V"⟩) ∈ lw_t2 := List.mem_filter.mpr ⟨List.mem_of_getElem? (i := 309) (by decide +kernel), by decide +kernel⟩
theorem wd_259 : (Cond.code ⟨"EditorCore$Text", "replace", "(IILEditorCore$Letters;)V"⟩ prog_7_method_3_code 7 none) ∈ lw_t2 := List.mem_filter.mpr ⟨List.mem_of_getElem? (i := 310) (by decide +kernel), by decide +kernel⟩
theorem wd_260 : (Cond.methodLink "EditorCore$Text" 33 ⟨"java/lang/System", "arraycopy", "(Ljava/lang/Object;ILjava/lang/Object;II)V"⟩) ∈ lw_t2 := List.mem_filter.mpr ⟨List.mem_of_getElem? (i := 311) (by decide +kernel), by decide +kernel⟩
theorem wd_261 : (Cond.methodLink "EditorCore$Text" 39 ⟨"EditorCore$Text", "moved", "(IZIII)I"⟩) ∈ lw_t2 := List.mem_filter.mpr ⟨List.mem_of_getElem? (i := 312) (by decide +kernel), by decide +kernel⟩
theorem wd_262 : (Cond.static ⟨"EditorCore$Text", "moved", "(IZIII)I"⟩) ∈ lw_t2 := List.mem_filter.mpr ⟨List.mem_of_getElem? (i := 313) (by decide +kernel), by decide +kernel⟩
theorem wd_263 : (Cond.code ⟨"EditorCore$Text", "moved", "(IZIII)I"⟩ prog_7_method_4_code 5 (some FieldType.int)) ∈ lw_t2 := List.mem_filter.mpr ⟨List.mem_of_getElem? (i := 314) (by decide +kernel), by decide +kernel⟩
theorem wd_264 : (Cond.methodLink "EditorCore" 177 ⟨"EditorCore", "finish", "(I)V"⟩) ∈ lw_t2 := List.mem_filter.mpr ⟨List.mem_of_getElem? (i := 315) (by decide +kernel), by decide +kernel⟩
theorem wd_266 : (Cond.instanceMethod ⟨"EditorCore", "finish", "(I)V"⟩) ∈ lw_t2 := List.mem_filter.mpr ⟨List.mem_of_getElem? (i := 317) (by decide +kernel), by decide +kernel⟩
theorem wd_267 : (Cond.code ⟨"EditorCore", "finish", "(I)V"⟩ prog_1_method_18_code 2 none) ∈ lw_t2 := List.mem_filter.mpr ⟨List.mem_of_getElem? (i := 318) (by decide +kernel), by decide +kernel⟩
theorem wd_268 : (Cond.methodLink "EditorCore" 73 ⟨"EditorCore$Events", "note", "(IZ)V"⟩) ∈ lw_t2 := List.mem_filter.mpr ⟨List.mem_of_getElem? (i := 319) (by decide +kernel), by decide +kernel⟩
theorem wd_269 : (Cond.instanceMethod ⟨"EditorCore$Events", "note", "(IZ)V"⟩) ∈ lw_t2 := List.mem_filter.mpr ⟨List.mem_of_getElem? (i := 320) (by decide +kernel), by decide +kernel⟩
theorem wd_270 : (Cond.selects "EditorCore$Events" ⟨"EditorCore$Events", "note", "(IZ)V"⟩ ⟨"EditorCore$Events", "note", "(IZ)V"⟩) ∈ lw_t2 := List.mem_filter.mpr ⟨List.mem_of_getElem? (i := 321) (by decide +kernel), by decide +kernel⟩
theorem wd_271 : (Cond.code ⟨"EditorCore$Events", "note", "(IZ)V"⟩ prog_2_method_2_code 3 none) ∈ lw_t2 := List.mem_filter.mpr ⟨List.mem_of_getElem? (i := 322) (by decide +kernel), by decide +kernel⟩
theorem wd_272 : (Cond.methodLink "EditorCoreLaw" 18 ⟨"EditorCore", "command", "(I)I"⟩) ∈ lw_t2 := List.mem_filter.mpr ⟨List.mem_of_getElem? (i := 323) (by decide +kernel), by decide +kernel⟩
theorem wd_273 : (Cond.instanceMethod ⟨"EditorCore", "command", "(I)I"⟩) ∈ lw_t2 := List.mem_filter.mpr ⟨List.mem_of_getElem? (i := 324) (by decide +kernel), by decide +kernel⟩
theorem wd_274 : (Cond.selects "EditorCore" ⟨"EditorCore", "command", "(I)I"⟩ ⟨"EditorCore", "command", "(I)I"⟩) ∈ lw_t2 := List.mem_filter.mpr ⟨List.mem_of_getElem? (i := 325) (by decide +kernel), by decide +kernel⟩
theorem wd_275 : (Cond.code ⟨"EditorCore", "command", "(I)I"⟩ prog_1_method_3_code 2 (some FieldType.int)) ∈ lw_t2 := List.mem_filter.mpr ⟨List.mem_of_getElem? (i := 326) (by decide +kernel), by decide +kernel⟩
theorem wd_276 : (Cond.methodLink "EditorCore" 77 ⟨"EditorCore", "replay", "()I"⟩) ∈ lw_t2 := List.mem_filter.mpr ⟨List.mem_of_getElem? (i := 327) (by decide +kernel), by decide +kernel⟩
theorem wd_278 : (Cond.instanceMethod ⟨"EditorCore", "replay", "()I"⟩) ∈ lw_t2 := List.mem_filter.mpr ⟨List.mem_of_getElem? (i := 329) (by decide +kernel), by decide +kernel⟩
theorem wd_279 : (Cond.code ⟨"EditorCore", "replay", "()I"⟩ prog_1_method_20_code 7 (some FieldType.int)) ∈ lw_t2 := List.mem_filter.mpr ⟨List.mem_of_getElem? (i := 330) (by decide +kernel), by decide +kernel⟩
theorem wd_280 : (Cond.methodLink "EditorCore" 98 ⟨"EditorCore$Keys", "stroke", "(I)I"⟩) ∈ lw_t2 := List.mem_filter.mpr ⟨List.mem_of_getElem? (i := 331) (by decide +kernel), by decide +kernel⟩
theorem wd_281 : (Cond.instanceMethod ⟨"EditorCore$Keys", "stroke", "(I)I"⟩) ∈ lw_t2 := List.mem_filter.mpr ⟨List.mem_of_getElem? (i := 332) (by decide +kernel), by decide +kernel⟩
theorem wd_282 : (Cond.selects "EditorCore$Keys" ⟨"EditorCore$Keys", "stroke", "(I)I"⟩ ⟨"EditorCore$Keys", "stroke", "(I)I"⟩) ∈ lw_t2 := List.mem_filter.mpr ⟨List.mem_of_getElem? (i := 333) (by decide +kernel), by decide +kernel⟩
theorem wd_283 : (Cond.code ⟨"EditorCore$Keys", "stroke", "(I)I"⟩ prog_4_method_8_code 4 (some FieldType.int)) ∈ lw_t2 := List.mem_filter.mpr ⟨List.mem_of_getElem? (i := 334) (by decide +kernel), by decide +kernel⟩
theorem wd_284 : (Cond.methodLink "EditorCore$Keys" 18 ⟨"EditorCore$Keys", "span", "(I)I"⟩) ∈ lw_t2 := List.mem_filter.mpr ⟨List.mem_of_getElem? (i := 335) (by decide +kernel), by decide +kernel⟩
theorem wd_285 : (Cond.static ⟨"EditorCore$Keys", "span", "(I)I"⟩) ∈ lw_t2 := List.mem_filter.mpr ⟨List.mem_of_getElem? (i := 336) (by decide +kernel), by decide +kernel⟩
theorem wd_286 : (Cond.code ⟨"EditorCore$Keys", "span", "(I)I"⟩ prog_4_method_3_code 1 (some FieldType.int)) ∈ lw_t2 := List.mem_filter.mpr ⟨List.mem_of_getElem? (i := 337) (by decide +kernel), by decide +kernel⟩
theorem wd_287 : (Cond.methodLink "EditorCore$Keys" 29 ⟨"EditorCore$Keys", "isLonger", "(II)Z"⟩) ∈ lw_t2 := List.mem_filter.mpr ⟨List.mem_of_getElem? (i := 338) (by decide +kernel), by decide +kernel⟩
theorem wd_288 : (Cond.static ⟨"EditorCore$Keys", "isLonger", "(II)Z"⟩) ∈ lw_t2 := List.mem_filter.mpr ⟨List.mem_of_getElem? (i := 339) (by decide +kernel), by decide +kernel⟩
theorem wd_289 : (Cond.code ⟨"EditorCore$Keys", "isLonger", "(II)Z"⟩ prog_4_method_4_code 2 (some FieldType.boolean)) ∈ lw_t2 := List.mem_filter.mpr ⟨List.mem_of_getElem? (i := 340) (by decide +kernel), by decide +kernel⟩
theorem wd_290 : (Cond.methodLink "EditorCore" 81 ⟨"EditorCore", "perform", "(I)I"⟩) ∈ lw_t2 := List.mem_filter.mpr ⟨List.mem_of_getElem? (i := 341) (by decide +kernel), by decide +kernel⟩
theorem wd_292 : (Cond.instanceMethod ⟨"EditorCore", "perform", "(I)I"⟩) ∈ lw_t2 := List.mem_filter.mpr ⟨List.mem_of_getElem? (i := 343) (by decide +kernel), by decide +kernel⟩
theorem wd_293 : (Cond.code ⟨"EditorCore", "perform", "(I)I"⟩ prog_1_method_21_code 3 (some FieldType.int)) ∈ lw_t2 := List.mem_filter.mpr ⟨List.mem_of_getElem? (i := 344) (by decide +kernel), by decide +kernel⟩
theorem wd_294 : (Cond.methodLink "EditorCore" 184 ⟨"EditorCore", "carryOut", "(I)I"⟩) ∈ lw_t2 := List.mem_filter.mpr ⟨List.mem_of_getElem? (i := 345) (by decide +kernel), by decide +kernel⟩
theorem wd_296 : (Cond.instanceMethod ⟨"EditorCore", "carryOut", "(I)I"⟩) ∈ lw_t2 := List.mem_filter.mpr ⟨List.mem_of_getElem? (i := 347) (by decide +kernel), by decide +kernel⟩
theorem wd_297 : (Cond.code ⟨"EditorCore", "carryOut", "(I)I"⟩ prog_1_method_22_code 2 (some FieldType.int)) ∈ lw_t2 := List.mem_filter.mpr ⟨List.mem_of_getElem? (i := 348) (by decide +kernel), by decide +kernel⟩
theorem wd_298 : (Cond.methodLink "EditorCore" 187 ⟨"java/lang/Math", "min", "(II)I"⟩) ∈ lw_t2 := List.mem_filter.mpr ⟨List.mem_of_getElem? (i := 349) (by decide +kernel), by decide +kernel⟩
theorem wd_299 : (Cond.static ⟨"java/lang/Math", "min", "(II)I"⟩) ∈ lw_t2 := List.mem_filter.mpr ⟨List.mem_of_getElem? (i := 350) (by decide +kernel), by decide +kernel⟩
theorem wd_300 : (Cond.code ⟨"java/lang/Math", "min", "(II)I"⟩ prog_11_method_69_code 2 (some FieldType.int)) ∈ lw_t2 := List.mem_filter.mpr ⟨List.mem_of_getElem? (i := 351) (by decide +kernel), by decide +kernel⟩
theorem wd_301 : (Cond.methodLink "EditorCore" 192 ⟨"EditorCore", "moveTo", "(I)I"⟩) ∈ lw_t2 := List.mem_filter.mpr ⟨List.mem_of_getElem? (i := 352) (by decide +kernel), by decide +kernel⟩
theorem wd_303 : (Cond.instanceMethod ⟨"EditorCore", "moveTo", "(I)I"⟩) ∈ lw_t2 := List.mem_filter.mpr ⟨List.mem_of_getElem? (i := 354) (by decide +kernel), by decide +kernel⟩
theorem wd_304 : (Cond.code ⟨"EditorCore", "moveTo", "(I)I"⟩ prog_1_method_23_code 2 (some FieldType.int)) ∈ lw_t2 := List.mem_filter.mpr ⟨List.mem_of_getElem? (i := 355) (by decide +kernel), by decide +kernel⟩
theorem wd_305 : (Cond.methodLink "EditorCore" 195 ⟨"java/lang/Math", "max", "(II)I"⟩) ∈ lw_t2 := List.mem_filter.mpr ⟨List.mem_of_getElem? (i := 356) (by decide +kernel), by decide +kernel⟩
theorem wd_306 : (Cond.static ⟨"java/lang/Math", "max", "(II)I"⟩) ∈ lw_t2 := List.mem_filter.mpr ⟨List.mem_of_getElem? (i := 357) (by decide +kernel), by decide +kernel⟩
theorem wd_307 : (Cond.code ⟨"java/lang/Math", "max", "(II)I"⟩ prog_11_method_65_code 2 (some FieldType.int)) ∈ lw_t2 := List.mem_filter.mpr ⟨List.mem_of_getElem? (i := 358) (by decide +kernel), by decide +kernel⟩
theorem wd_308 : (Cond.methodLink "EditorCore" 198 ⟨"EditorCore$Text", "beginningBelow", "(II)I"⟩) ∈ lw_t2 := List.mem_filter.mpr ⟨List.mem_of_getElem? (i := 359) (by decide +kernel), by decide +kernel⟩
theorem wd_309 : (Cond.instanceMethod ⟨"EditorCore$Text", "beginningBelow", "(II)I"⟩) ∈ lw_t2 := List.mem_filter.mpr ⟨List.mem_of_getElem? (i := 360) (by decide +kernel), by decide +kernel⟩
theorem wd_310 : (Cond.selects "EditorCore$Text" ⟨"EditorCore$Text", "beginningBelow", "(II)I"⟩ ⟨"EditorCore$Text", "beginningBelow", "(II)I"⟩) ∈ lw_t2 := List.mem_filter.mpr ⟨List.mem_of_getElem? (i := 361) (by decide +kernel), by decide +kernel⟩
theorem wd_311 : (Cond.code ⟨"EditorCore$Text", "beginningBelow", "(II)I"⟩ prog_7_method_7_code 6 (some FieldType.int)) ∈ lw_t2 := List.mem_filter.mpr ⟨List.mem_of_getElem? (i := 362) (by decide +kernel), by decide +kernel⟩
theorem wd_312 : (Cond.methodLink "EditorCore$Text" 43 ⟨"EditorCore$Text", "lineBeginning", "(I)I"⟩) ∈ lw_t2 := List.mem_filter.mpr ⟨List.mem_of_getElem? (i := 363) (by decide +kernel), by decide +kernel⟩
theorem wd_313 : (Cond.instanceMethod ⟨"EditorCore$Text", "lineBeginning", "(I)I"⟩) ∈ lw_t2 := List.mem_filter.mpr ⟨List.mem_of_getElem? (i := 364) (by decide +kernel), by decide +kernel⟩
theorem wd_314 : (Cond.selects "EditorCore$Text" ⟨"EditorCore$Text", "lineBeginning", "(I)I"⟩ ⟨"EditorCore$Text", "lineBeginning", "(I)I"⟩) ∈ lw_t2 := List.mem_filter.mpr ⟨List.mem_of_getElem? (i := 365) (by decide +kernel), by decide +kernel⟩
theorem wd_315 : (Cond.code ⟨"EditorCore$Text", "lineBeginning", "(I)I"⟩ prog_7_method_5_code 3 (some FieldType.int)) ∈ lw_t2 := List.mem_filter.mpr ⟨List.mem_of_getElem? (i := 366) (by decide +kernel), by decide +kernel⟩
theorem wd_316 : (Cond.methodLink "EditorCore$Text" 47 ⟨"EditorCore$Text", "lineEnd", "(I)I"⟩) ∈ lw_t2 := List.mem_filter.mpr ⟨List.mem_of_getElem? (i := 367) (by decide +kernel), by decide +kernel⟩
theorem wd_317 : (Cond.instanceMethod ⟨"EditorCore$Text", "lineEnd", "(I)I"⟩) ∈ lw_t2 := List.mem_filter.mpr ⟨List.mem_of_getElem? (i := 368) (by decide +kernel), by decide +kernel⟩
theorem wd_318 : (Cond.selects "EditorCore$Text" ⟨"EditorCore$Text", "lineEnd", "(I)I"⟩ ⟨"EditorCore$Text", "lineEnd", "(I)I"⟩) ∈ lw_t2 := List.mem_filter.mpr ⟨List.mem_of_getElem? (i := 369) (by decide +kernel), by decide +kernel⟩
theorem wd_319 : (Cond.code ⟨"EditorCore$Text", "lineEnd", "(I)I"⟩ prog_7_method_6_code 3 (some FieldType.int)) ∈ lw_t2 := List.mem_filter.mpr ⟨List.mem_of_getElem? (i := 370) (by decide +kernel), by decide +kernel⟩
theorem wd_320 : (Cond.methodLink "EditorCore" 201 ⟨"EditorCore", "moveToGoal", "(I)I"⟩) ∈ lw_t2 := List.mem_filter.mpr ⟨List.mem_of_getElem? (i := 371) (by decide +kernel), by decide +kernel⟩
theorem wd_322 : (Cond.instanceMethod ⟨"EditorCore", "moveToGoal", "(I)I"⟩) ∈ lw_t2 := List.mem_filter.mpr ⟨List.mem_of_getElem? (i := 373) (by decide +kernel), by decide +kernel⟩
theorem wd_323 : (Cond.code ⟨"EditorCore", "moveToGoal", "(I)I"⟩ prog_1_method_24_code 2 (some FieldType.int)) ∈ lw_t2 := List.mem_filter.mpr ⟨List.mem_of_getElem? (i := 374) (by decide +kernel), by decide +kernel⟩
theorem wd_324 : (Cond.methodLink "EditorCore" 207 ⟨"EditorCore$Text", "lineBeginning", "(I)I"⟩) ∈ lw_t2 := List.mem_filter.mpr ⟨List.mem_of_getElem? (i := 375) (by decide +kernel), by decide +kernel⟩
theorem wd_325 : (Cond.methodLink "EditorCore" 210 ⟨"EditorCore$Text", "lineEnd", "(I)I"⟩) ∈ lw_t2 := List.mem_filter.mpr ⟨List.mem_of_getElem? (i := 376) (by decide +kernel), by decide +kernel⟩
theorem wd_326 : (Cond.methodLink "EditorCore" 204 ⟨"EditorCore$Text", "beginningAbove", "(II)I"⟩) ∈ lw_t2 := List.mem_filter.mpr ⟨List.mem_of_getElem? (i := 377) (by decide +kernel), by decide +kernel⟩
theorem wd_327 : (Cond.instanceMethod ⟨"EditorCore$Text", "beginningAbove", "(II)I"⟩) ∈ lw_t2 := List.mem_filter.mpr ⟨List.mem_of_getElem? (i := 378) (by decide +kernel), by decide +kernel⟩
theorem wd_328 : (Cond.selects "EditorCore$Text" ⟨"EditorCore$Text", "beginningAbove", "(II)I"⟩ ⟨"EditorCore$Text", "beginningAbove", "(II)I"⟩) ∈ lw_t2 := List.mem_filter.mpr ⟨List.mem_of_getElem? (i := 379) (by decide +kernel), by decide +kernel⟩
theorem wd_329 : (Cond.code ⟨"EditorCore$Text", "beginningAbove", "(II)I"⟩ prog_7_method_8_code 5 (some FieldType.int)) ∈ lw_t2 := List.mem_filter.mpr ⟨List.mem_of_getElem? (i := 380) (by decide +kernel), by decide +kernel⟩
theorem wd_330 : (Cond.methodLink "EditorCore" 213 ⟨"EditorCore$Text", "behindWords", "(II)I"⟩) ∈ lw_t2 := List.mem_filter.mpr ⟨List.mem_of_getElem? (i := 381) (by decide +kernel), by decide +kernel⟩
theorem wd_331 : (Cond.instanceMethod ⟨"EditorCore$Text", "behindWords", "(II)I"⟩) ∈ lw_t2 := List.mem_filter.mpr ⟨List.mem_of_getElem? (i := 382) (by decide +kernel), by decide +kernel⟩
theorem wd_332 : (Cond.selects "EditorCore$Text" ⟨"EditorCore$Text", "behindWords", "(II)I"⟩ ⟨"EditorCore$Text", "behindWords", "(II)I"⟩) ∈ lw_t2 := List.mem_filter.mpr ⟨List.mem_of_getElem? (i := 383) (by decide +kernel), by decide +kernel⟩
theorem wd_333 : (Cond.code ⟨"EditorCore$Text", "behindWords", "(II)I"⟩ prog_7_method_9_code 5 (some FieldType.int)) ∈ lw_t2 := List.mem_filter.mpr ⟨List.mem_of_getElem? (i := 384) (by decide +kernel), by decide +kernel⟩
theorem wd_335 : (Cond.methodLink "EditorCore" 216 ⟨"EditorCore$Text", "beforeWords", "(II)I"⟩) ∈ lw_t2 := List.mem_filter.mpr ⟨List.mem_of_getElem? (i := 386) (by decide +kernel), by decide +kernel⟩
theorem wd_336 : (Cond.instanceMethod ⟨"EditorCore$Text", "beforeWords", "(II)I"⟩) ∈ lw_t2 := List.mem_filter.mpr ⟨List.mem_of_getElem? (i := 387) (by decide +kernel), by decide +kernel⟩
theorem wd_337 : (Cond.selects "EditorCore$Text" ⟨"EditorCore$Text", "beforeWords", "(II)I"⟩ ⟨"EditorCore$Text", "beforeWords", "(II)I"⟩) ∈ lw_t2 := List.mem_filter.mpr ⟨List.mem_of_getElem? (i := 388) (by decide +kernel), by decide +kernel⟩
theorem wd_338 : (Cond.code ⟨"EditorCore$Text", "beforeWords", "(II)I"⟩ prog_7_method_10_code 5 (some FieldType.int)) ∈ lw_t2 := List.mem_filter.mpr ⟨List.mem_of_getElem? (i := 389) (by decide +kernel), by decide +kernel⟩
theorem wd_339 : (Cond.methodLink "EditorCore" 219 ⟨"EditorCore", "takeOut", "(II)I"⟩) ∈ lw_t2 := List.mem_filter.mpr ⟨List.mem_of_getElem? (i := 390) (by decide +kernel), by decide +kernel⟩
theorem wd_341 : (Cond.instanceMethod ⟨"EditorCore", "takeOut", "(II)I"⟩) ∈ lw_t2 := List.mem_filter.mpr ⟨List.mem_of_getElem? (i := 392) (by decide +kernel), by decide +kernel⟩
theorem wd_342 : (Cond.code ⟨"EditorCore", "takeOut", "(II)I"⟩ prog_1_method_25_code 3 (some FieldType.int)) ∈ lw_t2 := List.mem_filter.mpr ⟨List.mem_of_getElem? (i := 393) (by decide +kernel), by decide +kernel⟩
theorem wd_343 : (Cond.methodLink "EditorCore" 222 ⟨"EditorCore", "lineKillEnd", "()I"⟩) ∈ lw_t2 := List.mem_filter.mpr ⟨List.mem_of_getElem? (i := 394) (by decide +kernel), by decide +kernel⟩
theorem wd_345 : (Cond.instanceMethod ⟨"EditorCore", "lineKillEnd", "()I"⟩) ∈ lw_t2 := List.mem_filter.mpr ⟨List.mem_of_getElem? (i := 396) (by decide +kernel), by decide +kernel⟩
theorem wd_346 : (Cond.code ⟨"EditorCore", "lineKillEnd", "()I"⟩ prog_1_method_26_code 2 (some FieldType.int)) ∈ lw_t2 := List.mem_filter.mpr ⟨List.mem_of_getElem? (i := 397) (by decide +kernel), by decide +kernel⟩
theorem wd_347 : (Cond.methodLink "EditorCore" 225 ⟨"EditorCore", "kill", "(IIZ)I"⟩) ∈ lw_t2 := List.mem_filter.mpr ⟨List.mem_of_getElem? (i := 398) (by decide +kernel), by decide +kernel⟩
theorem wd_349 : (Cond.instanceMethod ⟨"EditorCore", "kill", "(IIZ)I"⟩) ∈ lw_t2 := List.mem_filter.mpr ⟨List.mem_of_getElem? (i := 400) (by decide +kernel), by decide +kernel⟩
theorem wd_350 : (Cond.code ⟨"EditorCore", "kill", "(IIZ)I"⟩ prog_1_method_29_code 4 (some FieldType.int)) ∈ lw_t2 := List.mem_filter.mpr ⟨List.mem_of_getElem? (i := 401) (by decide +kernel), by decide +kernel⟩
theorem wd_351 : (Cond.methodLink "EditorCore" 262 ⟨"EditorCore$Kills", "take", "(LEditorCore$Letters;IIZ)V"⟩) ∈ lw_t2 := List.mem_filter.mpr ⟨List.mem_of_getElem? (i := 402) (by decide +kernel), by decide +kernel⟩
theorem wd_352 : (Cond.instanceMethod ⟨"EditorCore$Kills", "take", "(LEditorCore$Letters;IIZ)V"⟩) ∈ lw_t2 := List.mem_filter.mpr ⟨List.mem_of_getElem? (i := 403) (by decide +kernel), by decide +kernel⟩
theorem wd_353 : (Cond.selects "EditorCore$Kills" ⟨"EditorCore$Kills", "take", "(LEditorCore$Letters;IIZ)V"⟩ ⟨"EditorCore$Kills", "take", "(LEditorCore$Letters;IIZ)V"⟩) ∈ lw_t2 := List.mem_filter.mpr ⟨List.mem_of_getElem? (i := 404) (by decide +kernel), by decide +kernel⟩
theorem wd_354 : (Cond.code ⟨"EditorCore$Kills", "take", "(LEditorCore$Letters;IIZ)V"⟩ prog_5_method_2_code 5 none) ∈ lw_t2 := List.mem_filter.mpr ⟨List.mem_of_getElem? (i := 405) (by decide +kernel), by decide +kernel⟩
theorem wd_355 : (Cond.methodLink "EditorCore$Kills" 16 ⟨"EditorCore$Kills", "makeNewest", "()V"⟩) ∈ lw_t2 := List.mem_filter.mpr ⟨List.mem_of_getElem? (i := 406) (by decide +kernel), by decide +kernel⟩
theorem wd_357 : (Cond.instanceMethod ⟨"EditorCore$Kills", "makeNewest", "()V"⟩) ∈ lw_t2 := List.mem_filter.mpr ⟨List.mem_of_getElem? (i := 408) (by decide +kernel), by decide +kernel⟩
theorem wd_358 : (Cond.code ⟨"EditorCore$Kills", "makeNewest", "()V"⟩ prog_5_method_3_code 3 none) ∈ lw_t2 := List.mem_filter.mpr ⟨List.mem_of_getElem? (i := 409) (by decide +kernel), by decide +kernel⟩
theorem wd_359 : (Cond.methodLink "EditorCore$Kills" 23 ⟨"EditorCore$Letters", "clear", "()V"⟩) ∈ lw_t2 := List.mem_filter.mpr ⟨List.mem_of_getElem? (i := 410) (by decide +kernel), by decide +kernel⟩
theorem wd_360 : (Cond.methodLink "EditorCore$Kills" 30 ⟨"java/lang/Math", "min", "(II)I"⟩) ∈ lw_t2 := List.mem_filter.mpr ⟨List.mem_of_getElem? (i := 411) (by decide +kernel), by decide +kernel⟩
theorem wd_361 : (Cond.methodLink "EditorCore$Kills" 19 ⟨"EditorCore$Letters", "append", "(LEditorCore$Letters;II)V"⟩) ∈ lw_t2 := List.mem_filter.mpr ⟨List.mem_of_getElem? (i := 412) (by decide +kernel), by decide +kernel⟩
theorem wd_362 : (Cond.methodLink "EditorCore" 229 ⟨"EditorCore", "regionBeginning", "()I"⟩) ∈ lw_t2 := List.mem_filter.mpr ⟨List.mem_of_getElem? (i := 413) (by decide +kernel), by decide +kernel⟩
theorem wd_364 : (Cond.instanceMethod ⟨"EditorCore", "regionBeginning", "()I"⟩) ∈ lw_t2 := List.mem_filter.mpr ⟨List.mem_of_getElem? (i := 415) (by decide +kernel), by decide +kernel⟩
theorem wd_365 : (Cond.code ⟨"EditorCore", "regionBeginning", "()I"⟩ prog_1_method_27_code 2 (some FieldType.int)) ∈ lw_t2 := List.mem_filter.mpr ⟨List.mem_of_getElem? (i := 416) (by decide +kernel), by decide +kernel⟩
theorem wd_366 : (Cond.methodLink "EditorCore" 232 ⟨"EditorCore", "regionEnd", "()I"⟩) ∈ lw_t2 := List.mem_filter.mpr ⟨List.mem_of_getElem? (i := 417) (by decide +kernel), by decide +kernel⟩
theorem wd_368 : (Cond.instanceMethod ⟨"EditorCore", "regionEnd", "()I"⟩) ∈ lw_t2 := List.mem_filter.mpr ⟨List.mem_of_getElem? (i := 419) (by decide +kernel), by decide +kernel⟩
theorem wd_369 : (Cond.code ⟨"EditorCore", "regionEnd", "()I"⟩ prog_1_method_28_code 1 (some FieldType.int)) ∈ lw_t2 := List.mem_filter.mpr ⟨List.mem_of_getElem? (i := 420) (by decide +kernel), by decide +kernel⟩
theorem wd_370 : (Cond.methodLink "EditorCore" 235 ⟨"EditorCore", "copy", "(II)I"⟩) ∈ lw_t2 := List.mem_filter.mpr ⟨List.mem_of_getElem? (i := 421) (by decide +kernel), by decide +kernel⟩
theorem wd_372 : (Cond.instanceMethod ⟨"EditorCore", "copy", "(II)I"⟩) ∈ lw_t2 := List.mem_filter.mpr ⟨List.mem_of_getElem? (i := 423) (by decide +kernel), by decide +kernel⟩
theorem wd_373 : (Cond.code ⟨"EditorCore", "copy", "(II)I"⟩ prog_1_method_30_code 3 (some FieldType.int)) ∈ lw_t2 := List.mem_filter.mpr ⟨List.mem_of_getElem? (i := 424) (by decide +kernel), by decide +kernel⟩
theorem wd_374 : (Cond.methodLink "EditorCore" 238 ⟨"EditorCore", "putKill", "(III)I"⟩) ∈ lw_t2 := List.mem_filter.mpr ⟨List.mem_of_getElem? (i := 425) (by decide +kernel), by decide +kernel⟩
theorem wd_376 : (Cond.instanceMethod ⟨"EditorCore", "putKill", "(III)I"⟩) ∈ lw_t2 := List.mem_filter.mpr ⟨List.mem_of_getElem? (i := 427) (by decide +kernel), by decide +kernel⟩
theorem wd_377 : (Cond.code ⟨"EditorCore", "putKill", "(III)I"⟩ prog_1_method_31_code 5 (some FieldType.int)) ∈ lw_t2 := List.mem_filter.mpr ⟨List.mem_of_getElem? (i := 428) (by decide +kernel), by decide +kernel⟩
theorem wd_378 : (Cond.methodLink "EditorCore" 244 ⟨"EditorCore", "setMark", "(I)I"⟩) ∈ lw_t2 := List.mem_filter.mpr ⟨List.mem_of_getElem? (i := 429) (by decide +kernel), by decide +kernel⟩
theorem wd_380 : (Cond.instanceMethod ⟨"EditorCore", "setMark", "(I)I"⟩) ∈ lw_t2 := List.mem_filter.mpr ⟨List.mem_of_getElem? (i := 431) (by decide +kernel), by decide +kernel⟩
theorem wd_381 : (Cond.code ⟨"EditorCore", "setMark", "(I)I"⟩ prog_1_method_33_code 2 (some FieldType.int)) ∈ lw_t2 := List.mem_filter.mpr ⟨List.mem_of_getElem? (i := 432) (by decide +kernel), by decide +kernel⟩
theorem wd_382 : (Cond.methodLink "EditorCore" 241 ⟨"EditorCore", "putOlderKill", "()I"⟩) ∈ lw_t2 := List.mem_filter.mpr ⟨List.mem_of_getElem? (i := 433) (by decide +kernel), by decide +kernel⟩
theorem wd_384 : (Cond.instanceMethod ⟨"EditorCore", "putOlderKill", "()I"⟩) ∈ lw_t2 := List.mem_filter.mpr ⟨List.mem_of_getElem? (i := 435) (by decide +kernel), by decide +kernel⟩
theorem wd_385 : (Cond.code ⟨"EditorCore", "putOlderKill", "()I"⟩ prog_1_method_32_code 3 (some FieldType.int)) ∈ lw_t2 := List.mem_filter.mpr ⟨List.mem_of_getElem? (i := 436) (by decide +kernel), by decide +kernel⟩
theorem wd_386 : (Cond.methodLink "EditorCore" 247 ⟨"EditorCore", "swapMark", "()I"⟩) ∈ lw_t2 := List.mem_filter.mpr ⟨List.mem_of_getElem? (i := 437) (by decide +kernel), by decide +kernel⟩
theorem wd_388 : (Cond.instanceMethod ⟨"EditorCore", "swapMark", "()I"⟩) ∈ lw_t2 := List.mem_filter.mpr ⟨List.mem_of_getElem? (i := 439) (by decide +kernel), by decide +kernel⟩
theorem wd_389 : (Cond.code ⟨"EditorCore", "swapMark", "()I"⟩ prog_1_method_34_code 2 (some FieldType.int)) ∈ lw_t2 := List.mem_filter.mpr ⟨List.mem_of_getElem? (i := 440) (by decide +kernel), by decide +kernel⟩
theorem wd_390 : (Cond.methodLink "EditorCore" 250 ⟨"EditorCore", "swapCharacters", "()I"⟩) ∈ lw_t2 := List.mem_filter.mpr ⟨List.mem_of_getElem? (i := 441) (by decide +kernel), by decide +kernel⟩
theorem wd_392 : (Cond.instanceMethod ⟨"EditorCore", "swapCharacters", "()I"⟩) ∈ lw_t2 := List.mem_filter.mpr ⟨List.mem_of_getElem? (i := 443) (by decide +kernel), by decide +kernel⟩
theorem wd_393 : (Cond.code ⟨"EditorCore", "swapCharacters", "()I"⟩ prog_1_method_35_code 2 (some FieldType.int)) ∈ lw_t2 := List.mem_filter.mpr ⟨List.mem_of_getElem? (i := 444) (by decide +kernel), by decide +kernel⟩
theorem wd_394 : (Cond.methodLink "EditorCore" 253 ⟨"EditorCore", "undo", "()I"⟩) ∈ lw_t2 := List.mem_filter.mpr ⟨List.mem_of_getElem? (i := 445) (by decide +kernel), by decide +kernel⟩
theorem wd_396 : (Cond.instanceMethod ⟨"EditorCore", "undo", "()I"⟩) ∈ lw_t2 := List.mem_filter.mpr ⟨List.mem_of_getElem? (i := 447) (by decide +kernel), by decide +kernel⟩
theorem wd_397 : (Cond.code ⟨"EditorCore", "undo", "()I"⟩ prog_1_method_36_code 5 (some FieldType.int)) ∈ lw_t2 := List.mem_filter.mpr ⟨List.mem_of_getElem? (i := 448) (by decide +kernel), by decide +kernel⟩
theorem wd_398 : (Cond.methodLink "EditorCore" 272 ⟨"EditorCore$History", "keeps", "(I)Z"⟩) ∈ lw_t2 := List.mem_filter.mpr ⟨List.mem_of_getElem? (i := 449) (by decide +kernel), by decide +kernel⟩
theorem wd_399 : (Cond.instanceMethod ⟨"EditorCore$History", "keeps", "(I)Z"⟩) ∈ lw_t2 := List.mem_filter.mpr ⟨List.mem_of_getElem? (i := 450) (by decide +kernel), by decide +kernel⟩
theorem wd_400 : (Cond.selects "EditorCore$History" ⟨"EditorCore$History", "keeps", "(I)Z"⟩ ⟨"EditorCore$History", "keeps", "(I)Z"⟩) ∈ lw_t2 := List.mem_filter.mpr ⟨List.mem_of_getElem? (i := 451) (by decide +kernel), by decide +kernel⟩
theorem wd_401 : (Cond.code ⟨"EditorCore$History", "keeps", "(I)Z"⟩ prog_3_method_3_code 2 (some FieldType.boolean)) ∈ lw_t2 := List.mem_filter.mpr ⟨List.mem_of_getElem? (i := 452) (by decide +kernel), by decide +kernel⟩
theorem wd_402 : (Cond.methodLink "EditorCore" 275 ⟨"EditorCore$History", "slotOf", "(I)I"⟩) ∈ lw_t2 := List.mem_filter.mpr ⟨List.mem_of_getElem? (i := 453) (by decide +kernel), by decide +kernel⟩
theorem wd_403 : (Cond.methodLink "EditorCore" 284 ⟨"EditorCore$Letters", "append", "(LEditorCore$Letters;II)V"⟩) ∈ lw_t2 := List.mem_filter.mpr ⟨List.mem_of_getElem? (i := 454) (by decide +kernel), by decide +kernel⟩
theorem wd_404 : (Cond.methodLink "EditorCore" 256 ⟨"EditorCore", "search", "()I"⟩) ∈ lw_t2 := List.mem_filter.mpr ⟨List.mem_of_getElem? (i := 455) (by decide +kernel), by decide +kernel⟩
theorem wd_406 : (Cond.instanceMethod ⟨"EditorCore", "search", "()I"⟩) ∈ lw_t2 := List.mem_filter.mpr ⟨List.mem_of_getElem? (i := 457) (by decide +kernel), by decide +kernel⟩
theorem wd_407 : (Cond.code ⟨"EditorCore", "search", "()I"⟩ prog_1_method_37_code 3 (some FieldType.int)) ∈ lw_t2 := List.mem_filter.mpr ⟨List.mem_of_getElem? (i := 458) (by decide +kernel), by decide +kernel⟩
theorem wd_408 : (Cond.methodLink "EditorCore" 291 ⟨"EditorCore$Letters", "has", "(LEditorCore$Letters;I)Z"⟩) ∈ lw_t2 := List.mem_filter.mpr ⟨List.mem_of_getElem? (i := 459) (by decide +kernel), by decide +kernel⟩
theorem wd_409 : (Cond.instanceMethod ⟨"EditorCore$Letters", "has", "(LEditorCore$Letters;I)Z"⟩) ∈ lw_t2 := List.mem_filter.mpr ⟨List.mem_of_getElem? (i := 460) (by decide +kernel), by decide +kernel⟩
theorem wd_410 : (Cond.selects "EditorCore$Letters" ⟨"EditorCore$Letters", "has", "(LEditorCore$Letters;I)Z"⟩ ⟨"EditorCore$Letters", "has", "(LEditorCore$Letters;I)Z"⟩) ∈ lw_t2 := List.mem_filter.mpr ⟨List.mem_of_getElem? (i := 461) (by decide +kernel), by decide +kernel⟩
theorem wd_411 : (Cond.code ⟨"EditorCore$Letters", "has", "(LEditorCore$Letters;I)Z"⟩ prog_6_method_5_code 4 (some FieldType.boolean)) ∈ lw_t2 := List.mem_filter.mpr ⟨List.mem_of_getElem? (i := 462) (by decide +kernel), by decide +kernel⟩
theorem wd_412 : (Cond.methodLink "EditorCoreLaw" 22 ⟨"EditorCore", "argument", "(I)I"⟩) ∈ lw_t2 := List.mem_filter.mpr ⟨List.mem_of_getElem? (i := 463) (by decide +kernel), by decide +kernel⟩
theorem wd_413 : (Cond.instanceMethod ⟨"EditorCore", "argument", "(I)I"⟩) ∈ lw_t2 := List.mem_filter.mpr ⟨List.mem_of_getElem? (i := 464) (by decide +kernel), by decide +kernel⟩
theorem wd_414 : (Cond.selects "EditorCore" ⟨"EditorCore", "argument", "(I)I"⟩ ⟨"EditorCore", "argument", "(I)I"⟩) ∈ lw_t2 := List.mem_filter.mpr ⟨List.mem_of_getElem? (i := 465) (by decide +kernel), by decide +kernel⟩
theorem wd_415 : (Cond.code ⟨"EditorCore", "argument", "(I)I"⟩ prog_1_method_4_code 2 (some FieldType.int)) ∈ lw_t2 := List.mem_filter.mpr ⟨List.mem_of_getElem? (i := 466) (by decide +kernel), by decide +kernel⟩
theorem wd_416 : (Cond.methodLink "EditorCoreLaw" 26 ⟨"EditorCore", "bind", "(IIII)I"⟩) ∈ lw_t2 := List.mem_filter.mpr ⟨List.mem_of_getElem? (i := 467) (by decide +kernel), by decide +kernel⟩
theorem wd_417 : (Cond.instanceMethod ⟨"EditorCore", "bind", "(IIII)I"⟩) ∈ lw_t2 := List.mem_filter.mpr ⟨List.mem_of_getElem? (i := 468) (by decide +kernel), by decide +kernel⟩
theorem wd_418 : (Cond.selects "EditorCore" ⟨"EditorCore", "bind", "(IIII)I"⟩ ⟨"EditorCore", "bind", "(IIII)I"⟩) ∈ lw_t2 := List.mem_filter.mpr ⟨List.mem_of_getElem? (i := 469) (by decide +kernel), by decide +kernel⟩
theorem wd_419 : (Cond.code ⟨"EditorCore", "bind", "(IIII)I"⟩ prog_1_method_5_code 6 (some FieldType.int)) ∈ lw_t2 := List.mem_filter.mpr ⟨List.mem_of_getElem? (i := 470) (by decide +kernel), by decide +kernel⟩
theorem wd_420 : (Cond.methodLink "EditorCore" 84 ⟨"EditorCore", "isKey", "(I)Z"⟩) ∈ lw_t2 := List.mem_filter.mpr ⟨List.mem_of_getElem? (i := 471) (by decide +kernel), by decide +kernel⟩
theorem wd_421 : (Cond.static ⟨"EditorCore", "isKey", "(I)Z"⟩) ∈ lw_t2 := List.mem_filter.mpr ⟨List.mem_of_getElem? (i := 472) (by decide +kernel), by decide +kernel⟩
theorem wd_422 : (Cond.code ⟨"EditorCore", "isKey", "(I)Z"⟩ prog_1_method_16_code 1 (some FieldType.boolean)) ∈ lw_t2 := List.mem_filter.mpr ⟨List.mem_of_getElem? (i := 473) (by decide +kernel), by decide +kernel⟩
theorem wd_423 : (Cond.methodLink "EditorCore" 87 ⟨"EditorCore", "isKeyOrNone", "(I)Z"⟩) ∈ lw_t2 := List.mem_filter.mpr ⟨List.mem_of_getElem? (i := 474) (by decide +kernel), by decide +kernel⟩
theorem wd_424 : (Cond.static ⟨"EditorCore", "isKeyOrNone", "(I)Z"⟩) ∈ lw_t2 := List.mem_filter.mpr ⟨List.mem_of_getElem? (i := 475) (by decide +kernel), by decide +kernel⟩
theorem wd_425 : (Cond.code ⟨"EditorCore", "isKeyOrNone", "(I)Z"⟩ prog_1_method_17_code 1 (some FieldType.boolean)) ∈ lw_t2 := List.mem_filter.mpr ⟨List.mem_of_getElem? (i := 476) (by decide +kernel), by decide +kernel⟩
theorem wd_426 : (Cond.methodLink "EditorCore" 90 ⟨"EditorCore$Keys", "join", "(III)I"⟩) ∈ lw_t2 := List.mem_filter.mpr ⟨List.mem_of_getElem? (i := 477) (by decide +kernel), by decide +kernel⟩
theorem wd_427 : (Cond.static ⟨"EditorCore$Keys", "join", "(III)I"⟩) ∈ lw_t2 := List.mem_filter.mpr ⟨List.mem_of_getElem? (i := 478) (by decide +kernel), by decide +kernel⟩
theorem wd_428 : (Cond.code ⟨"EditorCore$Keys", "join", "(III)I"⟩ prog_4_method_2_code 3 (some FieldType.int)) ∈ lw_t2 := List.mem_filter.mpr ⟨List.mem_of_getElem? (i := 479) (by decide +kernel), by decide +kernel⟩
theorem wd_429 : (Cond.methodLink "EditorCore" 94 ⟨"EditorCore$Keys", "assign", "(II)I"⟩) ∈ lw_t2 := List.mem_filter.mpr ⟨List.mem_of_getElem? (i := 480) (by decide +kernel), by decide +kernel⟩
theorem wd_430 : (Cond.instanceMethod ⟨"EditorCore$Keys", "assign", "(II)I"⟩) ∈ lw_t2 := List.mem_filter.mpr ⟨List.mem_of_getElem? (i := 481) (by decide +kernel), by decide +kernel⟩
theorem wd_431 : (Cond.selects "EditorCore$Keys" ⟨"EditorCore$Keys", "assign", "(II)I"⟩ ⟨"EditorCore$Keys", "assign", "(II)I"⟩) ∈ lw_t2 := List.mem_filter.mpr ⟨List.mem_of_getElem? (i := 482) (by decide +kernel), by decide +kernel⟩
theorem wd_432 : (Cond.code ⟨"EditorCore$Keys", "assign", "(II)I"⟩ prog_4_method_6_code 5 (some FieldType.int)) ∈ lw_t2 := List.mem_filter.mpr ⟨List.mem_of_getElem? (i := 483) (by decide +kernel), by decide +kernel⟩
theorem wd_433 : (Cond.methodLink "EditorCore$Keys" 33 ⟨"EditorCore$Keys", "drop", "(II)V"⟩) ∈ lw_t2 := List.mem_filter.mpr ⟨List.mem_of_getElem? (i := 484) (by decide +kernel), by decide +kernel⟩
theorem wd_435 : (Cond.instanceMethod ⟨"EditorCore$Keys", "drop", "(II)V"⟩) ∈ lw_t2 := List.mem_filter.mpr ⟨List.mem_of_getElem? (i := 486) (by decide +kernel), by decide +kernel⟩
theorem wd_436 : (Cond.code ⟨"EditorCore$Keys", "drop", "(II)V"⟩ prog_4_method_7_code 5 none) ∈ lw_t2 := List.mem_filter.mpr ⟨List.mem_of_getElem? (i := 487) (by decide +kernel), by decide +kernel⟩
theorem wd_437 : (Cond.methodLink "EditorCoreLaw" 31 ⟨"EditorCore", "press", "(I)I"⟩) ∈ lw_t2 := List.mem_filter.mpr ⟨List.mem_of_getElem? (i := 488) (by decide +kernel), by decide +kernel⟩
theorem wd_438 : (Cond.instanceMethod ⟨"EditorCore", "press", "(I)I"⟩) ∈ lw_t2 := List.mem_filter.mpr ⟨List.mem_of_getElem? (i := 489) (by decide +kernel), by decide +kernel⟩
theorem wd_439 : (Cond.selects "EditorCore" ⟨"EditorCore", "press", "(I)I"⟩ ⟨"EditorCore", "press", "(I)I"⟩) ∈ lw_t2 := List.mem_filter.mpr ⟨List.mem_of_getElem? (i := 490) (by decide +kernel), by decide +kernel⟩
theorem wd_440 : (Cond.code ⟨"EditorCore", "press", "(I)I"⟩ prog_1_method_6_code 4 (some FieldType.int)) ∈ lw_t2 := List.mem_filter.mpr ⟨List.mem_of_getElem? (i := 491) (by decide +kernel), by decide +kernel⟩
theorem wd_441 : (Cond.methodLink "EditorCoreLaw" 35 ⟨"EditorCore", "macro", "(Z)I"⟩) ∈ lw_t2 := List.mem_filter.mpr ⟨List.mem_of_getElem? (i := 492) (by decide +kernel), by decide +kernel⟩
theorem wd_442 : (Cond.instanceMethod ⟨"EditorCore", "macro", "(Z)I"⟩) ∈ lw_t2 := List.mem_filter.mpr ⟨List.mem_of_getElem? (i := 493) (by decide +kernel), by decide +kernel⟩
theorem wd_443 : (Cond.selects "EditorCore" ⟨"EditorCore", "macro", "(Z)I"⟩ ⟨"EditorCore", "macro", "(Z)I"⟩) ∈ lw_t2 := List.mem_filter.mpr ⟨List.mem_of_getElem? (i := 494) (by decide +kernel), by decide +kernel⟩
theorem wd_444 : (Cond.code ⟨"EditorCore", "macro", "(Z)I"⟩ prog_1_method_7_code 2 (some FieldType.int)) ∈ lw_t2 := List.mem_filter.mpr ⟨List.mem_of_getElem? (i := 495) (by decide +kernel), by decide +kernel⟩
theorem wd_445 : (Cond.methodLink "EditorCoreLaw" 40 ⟨"EditorCore", "marker", "(IZ)I"⟩) ∈ lw_t2 := List.mem_filter.mpr ⟨List.mem_of_getElem? (i := 496) (by decide +kernel), by decide +kernel⟩
theorem wd_446 : (Cond.instanceMethod ⟨"EditorCore", "marker", "(IZ)I"⟩) ∈ lw_t2 := List.mem_filter.mpr ⟨List.mem_of_getElem? (i := 497) (by decide +kernel), by decide +kernel⟩
theorem wd_447 : (Cond.selects "EditorCore" ⟨"EditorCore", "marker", "(IZ)I"⟩ ⟨"EditorCore", "marker", "(IZ)I"⟩) ∈ lw_t2 := List.mem_filter.mpr ⟨List.mem_of_getElem? (i := 498) (by decide +kernel), by decide +kernel⟩
theorem wd_448 : (Cond.code ⟨"EditorCore", "marker", "(IZ)I"⟩ prog_1_method_8_code 3 (some FieldType.int)) ∈ lw_t2 := List.mem_filter.mpr ⟨List.mem_of_getElem? (i := 499) (by decide +kernel), by decide +kernel⟩
theorem wd_449 : (Cond.methodLink "EditorCoreLaw" 45 ⟨"EditorCore", "frame", "(II)I"⟩) ∈ lw_t2 := List.mem_filter.mpr ⟨List.mem_of_getElem? (i := 500) (by decide +kernel), by decide +kernel⟩
theorem wd_450 : (Cond.instanceMethod ⟨"EditorCore", "frame", "(II)I"⟩) ∈ lw_t2 := List.mem_filter.mpr ⟨List.mem_of_getElem? (i := 501) (by decide +kernel), by decide +kernel⟩
theorem wd_451 : (Cond.selects "EditorCore" ⟨"EditorCore", "frame", "(II)I"⟩ ⟨"EditorCore", "frame", "(II)I"⟩) ∈ lw_t2 := List.mem_filter.mpr ⟨List.mem_of_getElem? (i := 502) (by decide +kernel), by decide +kernel⟩
theorem wd_452 : (Cond.code ⟨"EditorCore", "frame", "(II)I"⟩ prog_1_method_9_code 3 (some FieldType.int)) ∈ lw_t2 := List.mem_filter.mpr ⟨List.mem_of_getElem? (i := 503) (by decide +kernel), by decide +kernel⟩
theorem wd_453 : (Cond.methodLink "EditorCore" 119 ⟨"EditorCore$Window", "resize", "(II)I"⟩) ∈ lw_t2 := List.mem_filter.mpr ⟨List.mem_of_getElem? (i := 504) (by decide +kernel), by decide +kernel⟩
theorem wd_454 : (Cond.instanceMethod ⟨"EditorCore$Window", "resize", "(II)I"⟩) ∈ lw_t2 := List.mem_filter.mpr ⟨List.mem_of_getElem? (i := 505) (by decide +kernel), by decide +kernel⟩
theorem wd_455 : (Cond.selects "EditorCore$Window" ⟨"EditorCore$Window", "resize", "(II)I"⟩ ⟨"EditorCore$Window", "resize", "(II)I"⟩) ∈ lw_t2 := List.mem_filter.mpr ⟨List.mem_of_getElem? (i := 506) (by decide +kernel), by decide +kernel⟩
theorem wd_456 : (Cond.code ⟨"EditorCore$Window", "resize", "(II)I"⟩ prog_8_method_2_code 3 (some FieldType.int)) ∈ lw_t2 := List.mem_filter.mpr ⟨List.mem_of_getElem? (i := 507) (by decide +kernel), by decide +kernel⟩
theorem wd_457 : (Cond.methodLink "EditorCoreLaw" 50 ⟨"EditorCore", "character", "(I)I"⟩) ∈ lw_t2 := List.mem_filter.mpr ⟨List.mem_of_getElem? (i := 508) (by decide +kernel), by decide +kernel⟩
theorem wd_458 : (Cond.instanceMethod ⟨"EditorCore", "character", "(I)I"⟩) ∈ lw_t2 := List.mem_filter.mpr ⟨List.mem_of_getElem? (i := 509) (by decide +kernel), by decide +kernel⟩
theorem wd_459 : (Cond.selects "EditorCore" ⟨"EditorCore", "character", "(I)I"⟩ ⟨"EditorCore", "character", "(I)I"⟩) ∈ lw_t2 := List.mem_filter.mpr ⟨List.mem_of_getElem? (i := 510) (by decide +kernel), by decide +kernel⟩
theorem wd_460 : (Cond.code ⟨"EditorCore", "character", "(I)I"⟩ prog_1_method_10_code 2 (some FieldType.int)) ∈ lw_t2 := List.mem_filter.mpr ⟨List.mem_of_getElem? (i := 511) (by decide +kernel), by decide +kernel⟩
theorem wd_461 : (Cond.methodLink "EditorCoreLaw" 54 ⟨"EditorCore", "markerAt", "(I)I"⟩) ∈ lw_t2 := List.mem_filter.mpr ⟨List.mem_of_getElem? (i := 512) (by decide +kernel), by decide +kernel⟩
theorem wd_462 : (Cond.instanceMethod ⟨"EditorCore", "markerAt", "(I)I"⟩) ∈ lw_t2 := List.mem_filter.mpr ⟨List.mem_of_getElem? (i := 513) (by decide +kernel), by decide +kernel⟩
theorem wd_463 : (Cond.selects "EditorCore" ⟨"EditorCore", "markerAt", "(I)I"⟩ ⟨"EditorCore", "markerAt", "(I)I"⟩) ∈ lw_t2 := List.mem_filter.mpr ⟨List.mem_of_getElem? (i := 514) (by decide +kernel), by decide +kernel⟩
theorem wd_464 : (Cond.code ⟨"EditorCore", "markerAt", "(I)I"⟩ prog_1_method_11_code 2 (some FieldType.int)) ∈ lw_t2 := List.mem_filter.mpr ⟨List.mem_of_getElem? (i := 515) (by decide +kernel), by decide +kernel⟩
theorem wd_465 : (Cond.methodLink "EditorCoreLaw" 58 ⟨"EditorCore", "killed", "(II)I"⟩) ∈ lw_t2 := List.mem_filter.mpr ⟨List.mem_of_getElem? (i := 516) (by decide +kernel), by decide +kernel⟩
theorem wd_466 : (Cond.instanceMethod ⟨"EditorCore", "killed", "(II)I"⟩) ∈ lw_t2 := List.mem_filter.mpr ⟨List.mem_of_getElem? (i := 517) (by decide +kernel), by decide +kernel⟩
theorem wd_467 : (Cond.selects "EditorCore" ⟨"EditorCore", "killed", "(II)I"⟩ ⟨"EditorCore", "killed", "(II)I"⟩) ∈ lw_t2 := List.mem_filter.mpr ⟨List.mem_of_getElem? (i := 518) (by decide +kernel), by decide +kernel⟩
theorem wd_468 : (Cond.code ⟨"EditorCore", "killed", "(II)I"⟩ prog_1_method_12_code 4 (some FieldType.int)) ∈ lw_t2 := List.mem_filter.mpr ⟨List.mem_of_getElem? (i := 519) (by decide +kernel), by decide +kernel⟩
theorem wd_469 : (Cond.methodLink "EditorCoreLaw" 62 ⟨"EditorCore", "cell", "(II)I"⟩) ∈ lw_t2 := List.mem_filter.mpr ⟨List.mem_of_getElem? (i := 520) (by decide +kernel), by decide +kernel⟩
theorem wd_470 : (Cond.instanceMethod ⟨"EditorCore", "cell", "(II)I"⟩) ∈ lw_t2 := List.mem_filter.mpr ⟨List.mem_of_getElem? (i := 521) (by decide +kernel), by decide +kernel⟩
theorem wd_471 : (Cond.selects "EditorCore" ⟨"EditorCore", "cell", "(II)I"⟩ ⟨"EditorCore", "cell", "(II)I"⟩) ∈ lw_t2 := List.mem_filter.mpr ⟨List.mem_of_getElem? (i := 522) (by decide +kernel), by decide +kernel⟩
theorem wd_472 : (Cond.code ⟨"EditorCore", "cell", "(II)I"⟩ prog_1_method_13_code 3 (some FieldType.int)) ∈ lw_t2 := List.mem_filter.mpr ⟨List.mem_of_getElem? (i := 523) (by decide +kernel), by decide +kernel⟩
theorem wd_473 : (Cond.methodLink "EditorCore" 141 ⟨"EditorCore$Window", "follow", "(LEditorCore$Text;)V"⟩) ∈ lw_t2 := List.mem_filter.mpr ⟨List.mem_of_getElem? (i := 524) (by decide +kernel), by decide +kernel⟩
theorem wd_474 : (Cond.instanceMethod ⟨"EditorCore$Window", "follow", "(LEditorCore$Text;)V"⟩) ∈ lw_t2 := List.mem_filter.mpr ⟨List.mem_of_getElem? (i := 525) (by decide +kernel), by decide +kernel⟩
theorem wd_475 : (Cond.selects "EditorCore$Window" ⟨"EditorCore$Window", "follow", "(LEditorCore$Text;)V"⟩ ⟨"EditorCore$Window", "follow", "(LEditorCore$Text;)V"⟩) ∈ lw_t2 := List.mem_filter.mpr ⟨List.mem_of_getElem? (i := 526) (by decide +kernel), by decide +kernel⟩
theorem wd_476 : (Cond.code ⟨"EditorCore$Window", "follow", "(LEditorCore$Text;)V"⟩ prog_8_method_4_code 3 none) ∈ lw_t2 := List.mem_filter.mpr ⟨List.mem_of_getElem? (i := 527) (by decide +kernel), by decide +kernel⟩
theorem wd_477 : (Cond.methodLink "EditorCore$Window" 39 ⟨"EditorCore$Window", "rowOf", "(LEditorCore$Letters;I)I"⟩) ∈ lw_t2 := List.mem_filter.mpr ⟨List.mem_of_getElem? (i := 528) (by decide +kernel), by decide +kernel⟩
theorem wd_478 : (Cond.instanceMethod ⟨"EditorCore$Window", "rowOf", "(LEditorCore$Letters;I)I"⟩) ∈ lw_t2 := List.mem_filter.mpr ⟨List.mem_of_getElem? (i := 529) (by decide +kernel), by decide +kernel⟩
theorem wd_479 : (Cond.selects "EditorCore$Window" ⟨"EditorCore$Window", "rowOf", "(LEditorCore$Letters;I)I"⟩ ⟨"EditorCore$Window", "rowOf", "(LEditorCore$Letters;I)I"⟩) ∈ lw_t2 := List.mem_filter.mpr ⟨List.mem_of_getElem? (i := 530) (by decide +kernel), by decide +kernel⟩
theorem wd_480 : (Cond.code ⟨"EditorCore$Window", "rowOf", "(LEditorCore$Letters;I)I"⟩ prog_8_method_3_code 6 (some FieldType.int)) ∈ lw_t2 := List.mem_filter.mpr ⟨List.mem_of_getElem? (i := 531) (by decide +kernel), by decide +kernel⟩
theorem wd_481 : (Cond.methodLink "EditorCore$Window" 43 ⟨"java/lang/Math", "min", "(II)I"⟩) ∈ lw_t2 := List.mem_filter.mpr ⟨List.mem_of_getElem? (i := 532) (by decide +kernel), by decide +kernel⟩
theorem wd_482 : (Cond.methodLink "EditorCore$Window" 49 ⟨"java/lang/Math", "max", "(II)I"⟩) ∈ lw_t2 := List.mem_filter.mpr ⟨List.mem_of_getElem? (i := 533) (by decide +kernel), by decide +kernel⟩
theorem wd_483 : (Cond.methodLink "EditorCore" 148 ⟨"EditorCore$Window", "codeAt", "(LEditorCore$Letters;II)I"⟩) ∈ lw_t2 := List.mem_filter.mpr ⟨List.mem_of_getElem? (i := 534) (by decide +kernel), by decide +kernel⟩
theorem wd_484 : (Cond.instanceMethod ⟨"EditorCore$Window", "codeAt", "(LEditorCore$Letters;II)I"⟩) ∈ lw_t2 := List.mem_filter.mpr ⟨List.mem_of_getElem? (i := 535) (by decide +kernel), by decide +kernel⟩
theorem wd_485 : (Cond.selects "EditorCore$Window" ⟨"EditorCore$Window", "codeAt", "(LEditorCore$Letters;II)I"⟩ ⟨"EditorCore$Window", "codeAt", "(LEditorCore$Letters;II)I"⟩) ∈ lw_t2 := List.mem_filter.mpr ⟨List.mem_of_getElem? (i := 536) (by decide +kernel), by decide +kernel⟩
theorem wd_486 : (Cond.code ⟨"EditorCore$Window", "codeAt", "(LEditorCore$Letters;II)I"⟩ prog_8_method_5_code 8 (some FieldType.int)) ∈ lw_t2 := List.mem_filter.mpr ⟨List.mem_of_getElem? (i := 537) (by decide +kernel), by decide +kernel⟩
theorem wd_487 : (Cond.methodLink "EditorCoreLaw" 66 ⟨"EditorCore", "info", "(I)I"⟩) ∈ lw_t2 := List.mem_filter.mpr ⟨List.mem_of_getElem? (i := 538) (by decide +kernel), by decide +kernel⟩
theorem wd_488 : (Cond.instanceMethod ⟨"EditorCore", "info", "(I)I"⟩) ∈ lw_t2 := List.mem_filter.mpr ⟨List.mem_of_getElem? (i := 539) (by decide +kernel), by decide +kernel⟩
theorem wd_489 : (Cond.selects "EditorCore" ⟨"EditorCore", "info", "(I)I"⟩ ⟨"EditorCore", "info", "(I)I"⟩) ∈ lw_t2 := List.mem_filter.mpr ⟨List.mem_of_getElem? (i := 540) (by decide +kernel), by decide +kernel⟩
theorem wd_490 : (Cond.code ⟨"EditorCore", "info", "(I)I"⟩ prog_1_method_14_code 2 (some FieldType.int)) ∈ lw_t2 := List.mem_filter.mpr ⟨List.mem_of_getElem? (i := 541) (by decide +kernel), by decide +kernel⟩
theorem wd_491 : (Cond.methodLink "EditorCore" 155 ⟨"EditorCore$Keys", "pendingCount", "()I"⟩) ∈ lw_t2 := List.mem_filter.mpr ⟨List.mem_of_getElem? (i := 542) (by decide +kernel), by decide +kernel⟩
theorem wd_492 : (Cond.instanceMethod ⟨"EditorCore$Keys", "pendingCount", "()I"⟩) ∈ lw_t2 := List.mem_filter.mpr ⟨List.mem_of_getElem? (i := 543) (by decide +kernel), by decide +kernel⟩
theorem wd_493 : (Cond.selects "EditorCore$Keys" ⟨"EditorCore$Keys", "pendingCount", "()I"⟩ ⟨"EditorCore$Keys", "pendingCount", "()I"⟩) ∈ lw_t2 := List.mem_filter.mpr ⟨List.mem_of_getElem? (i := 544) (by decide +kernel), by decide +kernel⟩
theorem wd_494 : (Cond.code ⟨"EditorCore$Keys", "pendingCount", "()I"⟩ prog_4_method_5_code 2 (some FieldType.int)) ∈ lw_t2 := List.mem_filter.mpr ⟨List.mem_of_getElem? (i := 545) (by decide +kernel), by decide +kernel⟩
theorem wd_495 : (Cond.methodLink "EditorCore" 159 ⟨"EditorCore$Window", "rowOf", "(LEditorCore$Letters;I)I"⟩) ∈ lw_t2 := List.mem_filter.mpr ⟨List.mem_of_getElem? (i := 546) (by decide +kernel), by decide +kernel⟩
theorem wd_496 : (Cond.classLink "EditorCoreLaw" 10 "EditorCoreModel") ∈ lw_t2 := List.mem_filter.mpr ⟨List.mem_of_getElem? (i := 547) (by decide +kernel), by decide +kernel⟩
theorem wd_497 : (Cond.instantiable "EditorCoreModel" 36) ∈ lw_t2 := List.mem_filter.mpr ⟨List.mem_of_getElem? (i := 548) (by decide +kernel), by decide +kernel⟩
theorem wd_498 : (Cond.methodLink "EditorCoreLaw" 12 ⟨"EditorCoreModel", "<init>", "()V"⟩) ∈ lw_t2 := List.mem_filter.mpr ⟨List.mem_of_getElem? (i := 549) (by decide +kernel), by decide +kernel⟩
theorem wd_499 : (Cond.instanceMethod ⟨"EditorCoreModel", "<init>", "()V"⟩) ∈ lw_t2 := List.mem_filter.mpr ⟨List.mem_of_getElem? (i := 550) (by decide +kernel), by decide +kernel⟩
theorem wd_500 : (Cond.code ⟨"EditorCoreModel", "<init>", "()V"⟩ prog_10_method_1_code 2 none) ∈ lw_t2 := List.mem_filter.mpr ⟨List.mem_of_getElem? (i := 551) (by decide +kernel), by decide +kernel⟩
theorem wd_501 : (Cond.methodLink "EditorCoreModel" 1 ⟨"java/lang/Object", "<init>", "()V"⟩) ∈ lw_t2 := List.mem_filter.mpr ⟨List.mem_of_getElem? (i := 552) (by decide +kernel), by decide +kernel⟩
theorem wd_502 : (Cond.fieldLink "EditorCoreModel" 7 "EditorCoreModel" "text" "[I") ∈ lw_t2 := List.mem_filter.mpr ⟨List.mem_of_getElem? (i := 553) (by decide +kernel), by decide +kernel⟩
theorem wd_503 : (Cond.fieldLink "EditorCoreModel" 13 "EditorCoreModel" "old" "[I") ∈ lw_t2 := List.mem_filter.mpr ⟨List.mem_of_getElem? (i := 554) (by decide +kernel), by decide +kernel⟩
theorem wd_504 : (Cond.fieldLink "EditorCoreModel" 16 "EditorCoreModel" "fresh" "[I") ∈ lw_t2 := List.mem_filter.mpr ⟨List.mem_of_getElem? (i := 555) (by decide +kernel), by decide +kernel⟩
theorem wd_505 : (Cond.fieldLink "EditorCoreModel" 75 "EditorCoreModel" "length" "I") ∈ lw_t2 := List.mem_filter.mpr ⟨List.mem_of_getElem? (i := 556) (by decide +kernel), by decide +kernel⟩
theorem wd_506 : (Cond.fieldLink "EditorCoreModel" 78 "EditorCoreModel" "freshLength" "I") ∈ lw_t2 := List.mem_filter.mpr ⟨List.mem_of_getElem? (i := 557) (by decide +kernel), by decide +kernel⟩
theorem wd_507 : (Cond.fieldLink "EditorCoreModel" 96 "EditorCoreModel" "point" "I") ∈ lw_t2 := List.mem_filter.mpr ⟨List.mem_of_getElem? (i := 558) (by decide +kernel), by decide +kernel⟩
theorem wd_508 : (Cond.fieldLink "EditorCoreModel" 19 "EditorCoreModel" "mark" "I") ∈ lw_t2 := List.mem_filter.mpr ⟨List.mem_of_getElem? (i := 559) (by decide +kernel), by decide +kernel⟩
theorem wd_509 : (Cond.fieldLink "EditorCoreModel" 23 "EditorCoreModel" "n" "I") ∈ lw_t2 := List.mem_filter.mpr ⟨List.mem_of_getElem? (i := 560) (by decide +kernel), by decide +kernel⟩
theorem wd_510 : (Cond.fieldLink "EditorCoreModel" 26 "EditorCoreModel" "last" "I") ∈ lw_t2 := List.mem_filter.mpr ⟨List.mem_of_getElem? (i := 561) (by decide +kernel), by decide +kernel⟩
theorem wd_511 : (Cond.fieldLink "EditorCoreModel" 109 "EditorCoreModel" "goal" "I") ∈ lw_t2 := List.mem_filter.mpr ⟨List.mem_of_getElem? (i := 562) (by decide +kernel), by decide +kernel⟩
theorem wd_512 : (Cond.fieldLink "EditorCoreModel" 29 "EditorCoreModel" "marker" "[I") ∈ lw_t2 := List.mem_filter.mpr ⟨List.mem_of_getElem? (i := 563) (by decide +kernel), by decide +kernel⟩
theorem wd_513 : (Cond.fieldLink "EditorCoreModel" 32 "EditorCoreModel" "following" "[Z") ∈ lw_t2 := List.mem_filter.mpr ⟨List.mem_of_getElem? (i := 564) (by decide +kernel), by decide +kernel⟩
theorem wd_514 : (Cond.fieldLink "EditorCoreModel" 36 "EditorCoreModel" "kill" "[I") ∈ lw_t2 := List.mem_filter.mpr ⟨List.mem_of_getElem? (i := 565) (by decide +kernel), by decide +kernel⟩
theorem wd_515 : (Cond.fieldLink "EditorCoreModel" 39 "EditorCoreModel" "killLength" "[I") ∈ lw_t2 := List.mem_filter.mpr ⟨List.mem_of_getElem? (i := 566) (by decide +kernel), by decide +kernel⟩
theorem wd_516 : (Cond.fieldLink "EditorCoreModel" 115 "EditorCoreModel" "kills" "I") ∈ lw_t2 := List.mem_filter.mpr ⟨List.mem_of_getElem? (i := 567) (by decide +kernel), by decide +kernel⟩
theorem wd_517 : (Cond.fieldLink "EditorCoreModel" 126 "EditorCoreModel" "yankAt" "I") ∈ lw_t2 := List.mem_filter.mpr ⟨List.mem_of_getElem? (i := 568) (by decide +kernel), by decide +kernel⟩
theorem wd_518 : (Cond.fieldLink "EditorCoreModel" 129 "EditorCoreModel" "yankLength" "I") ∈ lw_t2 := List.mem_filter.mpr ⟨List.mem_of_getElem? (i := 569) (by decide +kernel), by decide +kernel⟩
theorem wd_519 : (Cond.fieldLink "EditorCoreModel" 132 "EditorCoreModel" "yankKill" "I") ∈ lw_t2 := List.mem_filter.mpr ⟨List.mem_of_getElem? (i := 570) (by decide +kernel), by decide +kernel⟩
theorem wd_520 : (Cond.fieldLink "EditorCoreModel" 42 "EditorCoreModel" "before" "[I") ∈ lw_t2 := List.mem_filter.mpr ⟨List.mem_of_getElem? (i := 571) (by decide +kernel), by decide +kernel⟩
theorem wd_521 : (Cond.fieldLink "EditorCoreModel" 45 "EditorCoreModel" "beforeLength" "[I") ∈ lw_t2 := List.mem_filter.mpr ⟨List.mem_of_getElem? (i := 572) (by decide +kernel), by decide +kernel⟩
theorem wd_522 : (Cond.fieldLink "EditorCoreModel" 48 "EditorCoreModel" "stepAt" "[I") ∈ lw_t2 := List.mem_filter.mpr ⟨List.mem_of_getElem? (i := 573) (by decide +kernel), by decide +kernel⟩
theorem wd_523 : (Cond.fieldLink "EditorCoreModel" 51 "EditorCoreModel" "stepTook" "[I") ∈ lw_t2 := List.mem_filter.mpr ⟨List.mem_of_getElem? (i := 574) (by decide +kernel), by decide +kernel⟩
theorem wd_524 : (Cond.fieldLink "EditorCoreModel" 54 "EditorCoreModel" "stepPut" "[I") ∈ lw_t2 := List.mem_filter.mpr ⟨List.mem_of_getElem? (i := 575) (by decide +kernel), by decide +kernel⟩
theorem wd_525 : (Cond.fieldLink "EditorCoreModel" 85 "EditorCoreModel" "steps" "I") ∈ lw_t2 := List.mem_filter.mpr ⟨List.mem_of_getElem? (i := 576) (by decide +kernel), by decide +kernel⟩
theorem wd_526 : (Cond.fieldLink "EditorCoreModel" 135 "EditorCoreModel" "undone" "I") ∈ lw_t2 := List.mem_filter.mpr ⟨List.mem_of_getElem? (i := 577) (by decide +kernel), by decide +kernel⟩
theorem wd_527 : (Cond.fieldLink "EditorCoreModel" 57 "EditorCoreModel" "bound" "[I") ∈ lw_t2 := List.mem_filter.mpr ⟨List.mem_of_getElem? (i := 578) (by decide +kernel), by decide +kernel⟩
theorem wd_528 : (Cond.fieldLink "EditorCoreModel" 60 "EditorCoreModel" "command" "[I") ∈ lw_t2 := List.mem_filter.mpr ⟨List.mem_of_getElem? (i := 579) (by decide +kernel), by decide +kernel⟩
theorem wd_529 : (Cond.fieldLink "EditorCoreModel" 176 "EditorCoreModel" "bindings" "I") ∈ lw_t2 := List.mem_filter.mpr ⟨List.mem_of_getElem? (i := 580) (by decide +kernel), by decide +kernel⟩
theorem wd_530 : (Cond.fieldLink "EditorCoreModel" 63 "EditorCoreModel" "pending" "[I") ∈ lw_t2 := List.mem_filter.mpr ⟨List.mem_of_getElem? (i := 581) (by decide +kernel), by decide +kernel⟩
theorem wd_531 : (Cond.fieldLink "EditorCoreModel" 189 "EditorCoreModel" "pendings" "I") ∈ lw_t2 := List.mem_filter.mpr ⟨List.mem_of_getElem? (i := 582) (by decide +kernel), by decide +kernel⟩
theorem wd_532 : (Cond.fieldLink "EditorCoreModel" 66 "EditorCoreModel" "event" "[I") ∈ lw_t2 := List.mem_filter.mpr ⟨List.mem_of_getElem? (i := 583) (by decide +kernel), by decide +kernel⟩
theorem wd_533 : (Cond.fieldLink "EditorCoreModel" 196 "EditorCoreModel" "events" "I") ∈ lw_t2 := List.mem_filter.mpr ⟨List.mem_of_getElem? (i := 584) (by decide +kernel), by decide +kernel⟩
theorem wd_534 : (Cond.fieldLink "EditorCoreModel" 192 "EditorCoreModel" "recorded" "Z") ∈ lw_t2 := List.mem_filter.mpr ⟨List.mem_of_getElem? (i := 585) (by decide +kernel), by decide +kernel⟩
theorem wd_535 : (Cond.fieldLink "EditorCoreModel" 69 "EditorCoreModel" "columns" "I") ∈ lw_t2 := List.mem_filter.mpr ⟨List.mem_of_getElem? (i := 586) (by decide +kernel), by decide +kernel⟩
theorem wd_536 : (Cond.fieldLink "EditorCoreModel" 72 "EditorCoreModel" "rows" "I") ∈ lw_t2 := List.mem_filter.mpr ⟨List.mem_of_getElem? (i := 587) (by decide +kernel), by decide +kernel⟩
theorem wd_537 : (Cond.fieldLink "EditorCoreModel" 214 "EditorCoreModel" "firstRow" "I") ∈ lw_t2 := List.mem_filter.mpr ⟨List.mem_of_getElem? (i := 588) (by decide +kernel), by decide +kernel⟩
theorem wd_538 : (Cond.laysFinal "EditorCoreModel" "EditorCoreModel" "text" "[I") ∈ lw_t2 := List.mem_filter.mpr ⟨List.mem_of_getElem? (i := 589) (by decide +kernel), by decide +kernel⟩
theorem wd_540 : (Cond.laysFinal "EditorCoreModel" "EditorCoreModel" "old" "[I") ∈ lw_t2 := List.mem_filter.mpr ⟨List.mem_of_getElem? (i := 591) (by decide +kernel), by decide +kernel⟩
theorem wd_542 : (Cond.laysFinal "EditorCoreModel" "EditorCoreModel" "fresh" "[I") ∈ lw_t2 := List.mem_filter.mpr ⟨List.mem_of_getElem? (i := 593) (by decide +kernel), by decide +kernel⟩
theorem wd_544 : (Cond.lays "EditorCoreModel" "EditorCoreModel" "length" "I") ∈ lw_t2 := List.mem_filter.mpr ⟨List.mem_of_getElem? (i := 595) (by decide +kernel), by decide +kernel⟩
theorem wd_546 : (Cond.lays "EditorCoreModel" "EditorCoreModel" "freshLength" "I") ∈ lw_t2 := List.mem_filter.mpr ⟨List.mem_of_getElem? (i := 597) (by decide +kernel), by decide +kernel⟩
theorem wd_548 : (Cond.lays "EditorCoreModel" "EditorCoreModel" "point" "I") ∈ lw_t2 := List.mem_filter.mpr ⟨List.mem_of_getElem? (i := 599) (by decide +kernel), by decide +kernel⟩
theorem wd_550 : (Cond.lays "EditorCoreModel" "EditorCoreModel" "mark" "I") ∈ lw_t2 := List.mem_filter.mpr ⟨List.mem_of_getElem? (i := 601) (by decide +kernel), by decide +kernel⟩
theorem wd_552 : (Cond.lays "EditorCoreModel" "EditorCoreModel" "n" "I") ∈ lw_t2 := List.mem_filter.mpr ⟨List.mem_of_getElem? (i := 603) (by decide +kernel), by decide +kernel⟩
theorem wd_554 : (Cond.lays "EditorCoreModel" "EditorCoreModel" "last" "I") ∈ lw_t2 := List.mem_filter.mpr ⟨List.mem_of_getElem? (i := 605) (by decide +kernel), by decide +kernel⟩
theorem wd_556 : (Cond.lays "EditorCoreModel" "EditorCoreModel" "goal" "I") ∈ lw_t2 := List.mem_filter.mpr ⟨List.mem_of_getElem? (i := 607) (by decide +kernel), by decide +kernel⟩
theorem wd_558 : (Cond.laysFinal "EditorCoreModel" "EditorCoreModel" "marker" "[I") ∈ lw_t2 := List.mem_filter.mpr ⟨List.mem_of_getElem? (i := 609) (by decide +kernel), by decide +kernel⟩
theorem wd_560 : (Cond.laysFinal "EditorCoreModel" "EditorCoreModel" "following" "[Z") ∈ lw_t2 := List.mem_filter.mpr ⟨List.mem_of_getElem? (i := 611) (by decide +kernel), by decide +kernel⟩
theorem wd_562 : (Cond.laysFinal "EditorCoreModel" "EditorCoreModel" "kill" "[I") ∈ lw_t2 := List.mem_filter.mpr ⟨List.mem_of_getElem? (i := 613) (by decide +kernel), by decide +kernel⟩
theorem wd_564 : (Cond.laysFinal "EditorCoreModel" "EditorCoreModel" "killLength" "[I") ∈ lw_t2 := List.mem_filter.mpr ⟨List.mem_of_getElem? (i := 615) (by decide +kernel), by decide +kernel⟩
theorem wd_566 : (Cond.lays "EditorCoreModel" "EditorCoreModel" "kills" "I") ∈ lw_t2 := List.mem_filter.mpr ⟨List.mem_of_getElem? (i := 617) (by decide +kernel), by decide +kernel⟩
theorem wd_568 : (Cond.lays "EditorCoreModel" "EditorCoreModel" "yankAt" "I") ∈ lw_t2 := List.mem_filter.mpr ⟨List.mem_of_getElem? (i := 619) (by decide +kernel), by decide +kernel⟩
theorem wd_570 : (Cond.lays "EditorCoreModel" "EditorCoreModel" "yankLength" "I") ∈ lw_t2 := List.mem_filter.mpr ⟨List.mem_of_getElem? (i := 621) (by decide +kernel), by decide +kernel⟩
theorem wd_572 : (Cond.lays "EditorCoreModel" "EditorCoreModel" "yankKill" "I") ∈ lw_t2 := List.mem_filter.mpr ⟨List.mem_of_getElem? (i := 623) (by decide +kernel), by decide +kernel⟩
theorem wd_574 : (Cond.laysFinal "EditorCoreModel" "EditorCoreModel" "before" "[I") ∈ lw_t2 := List.mem_filter.mpr ⟨List.mem_of_getElem? (i := 625) (by decide +kernel), by decide +kernel⟩
theorem wd_576 : (Cond.laysFinal "EditorCoreModel" "EditorCoreModel" "beforeLength" "[I") ∈ lw_t2 := List.mem_filter.mpr ⟨List.mem_of_getElem? (i := 627) (by decide +kernel), by decide +kernel⟩
theorem wd_578 : (Cond.laysFinal "EditorCoreModel" "EditorCoreModel" "stepAt" "[I") ∈ lw_t2 := List.mem_filter.mpr ⟨List.mem_of_getElem? (i := 629) (by decide +kernel), by decide +kernel⟩
theorem wd_580 : (Cond.laysFinal "EditorCoreModel" "EditorCoreModel" "stepTook" "[I") ∈ lw_t2 := List.mem_filter.mpr ⟨List.mem_of_getElem? (i := 631) (by decide +kernel), by decide +kernel⟩
theorem wd_582 : (Cond.laysFinal "EditorCoreModel" "EditorCoreModel" "stepPut" "[I") ∈ lw_t2 := List.mem_filter.mpr ⟨List.mem_of_getElem? (i := 633) (by decide +kernel), by decide +kernel⟩
theorem wd_584 : (Cond.lays "EditorCoreModel" "EditorCoreModel" "steps" "I") ∈ lw_t2 := List.mem_filter.mpr ⟨List.mem_of_getElem? (i := 635) (by decide +kernel), by decide +kernel⟩
theorem wd_586 : (Cond.lays "EditorCoreModel" "EditorCoreModel" "undone" "I") ∈ lw_t2 := List.mem_filter.mpr ⟨List.mem_of_getElem? (i := 637) (by decide +kernel), by decide +kernel⟩
theorem wd_588 : (Cond.laysFinal "EditorCoreModel" "EditorCoreModel" "bound" "[I") ∈ lw_t2 := List.mem_filter.mpr ⟨List.mem_of_getElem? (i := 639) (by decide +kernel), by decide +kernel⟩
theorem wd_590 : (Cond.laysFinal "EditorCoreModel" "EditorCoreModel" "command" "[I") ∈ lw_t2 := List.mem_filter.mpr ⟨List.mem_of_getElem? (i := 641) (by decide +kernel), by decide +kernel⟩
theorem wd_592 : (Cond.lays "EditorCoreModel" "EditorCoreModel" "bindings" "I") ∈ lw_t2 := List.mem_filter.mpr ⟨List.mem_of_getElem? (i := 643) (by decide +kernel), by decide +kernel⟩
theorem wd_594 : (Cond.laysFinal "EditorCoreModel" "EditorCoreModel" "pending" "[I") ∈ lw_t2 := List.mem_filter.mpr ⟨List.mem_of_getElem? (i := 645) (by decide +kernel), by decide +kernel⟩
theorem wd_596 : (Cond.lays "EditorCoreModel" "EditorCoreModel" "pendings" "I") ∈ lw_t2 := List.mem_filter.mpr ⟨List.mem_of_getElem? (i := 647) (by decide +kernel), by decide +kernel⟩
theorem wd_598 : (Cond.laysFinal "EditorCoreModel" "EditorCoreModel" "event" "[I") ∈ lw_t2 := List.mem_filter.mpr ⟨List.mem_of_getElem? (i := 649) (by decide +kernel), by decide +kernel⟩
theorem wd_600 : (Cond.lays "EditorCoreModel" "EditorCoreModel" "events" "I") ∈ lw_t2 := List.mem_filter.mpr ⟨List.mem_of_getElem? (i := 651) (by decide +kernel), by decide +kernel⟩
theorem wd_602 : (Cond.lays "EditorCoreModel" "EditorCoreModel" "recorded" "Z") ∈ lw_t2 := List.mem_filter.mpr ⟨List.mem_of_getElem? (i := 653) (by decide +kernel), by decide +kernel⟩
theorem wd_604 : (Cond.lays "EditorCoreModel" "EditorCoreModel" "columns" "I") ∈ lw_t2 := List.mem_filter.mpr ⟨List.mem_of_getElem? (i := 655) (by decide +kernel), by decide +kernel⟩
theorem wd_606 : (Cond.lays "EditorCoreModel" "EditorCoreModel" "rows" "I") ∈ lw_t2 := List.mem_filter.mpr ⟨List.mem_of_getElem? (i := 657) (by decide +kernel), by decide +kernel⟩
theorem wd_608 : (Cond.lays "EditorCoreModel" "EditorCoreModel" "firstRow" "I") ∈ lw_t2 := List.mem_filter.mpr ⟨List.mem_of_getElem? (i := 659) (by decide +kernel), by decide +kernel⟩
theorem wd_611 : (Cond.methodLink "EditorCoreLaw" 30 ⟨"EditorCoreModel", "bind", "(IIII)I"⟩) ∈ lw_t2 := List.mem_filter.mpr ⟨List.mem_of_getElem? (i := 662) (by decide +kernel), by decide +kernel⟩
theorem wd_612 : (Cond.instanceMethod ⟨"EditorCoreModel", "bind", "(IIII)I"⟩) ∈ lw_t2 := List.mem_filter.mpr ⟨List.mem_of_getElem? (i := 663) (by decide +kernel), by decide +kernel⟩
theorem wd_613 : (Cond.selects "EditorCoreModel" ⟨"EditorCoreModel", "bind", "(IIII)I"⟩ ⟨"EditorCoreModel", "bind", "(IIII)I"⟩) ∈ lw_t2 := List.mem_filter.mpr ⟨List.mem_of_getElem? (i := 664) (by decide +kernel), by decide +kernel⟩
theorem wd_614 : (Cond.code ⟨"EditorCoreModel", "bind", "(IIII)I"⟩ prog_10_method_27_code 9 (some FieldType.int)) ∈ lw_t2 := List.mem_filter.mpr ⟨List.mem_of_getElem? (i := 665) (by decide +kernel), by decide +kernel⟩
theorem wd_615 : (Cond.methodLink "EditorCoreModel" 179 ⟨"EditorCoreModel", "size", "(I)I"⟩) ∈ lw_t2 := List.mem_filter.mpr ⟨List.mem_of_getElem? (i := 666) (by decide +kernel), by decide +kernel⟩
theorem wd_617 : (Cond.instanceMethod ⟨"EditorCoreModel", "size", "(I)I"⟩) ∈ lw_t2 := List.mem_filter.mpr ⟨List.mem_of_getElem? (i := 668) (by decide +kernel), by decide +kernel⟩
theorem wd_618 : (Cond.code ⟨"EditorCoreModel", "size", "(I)I"⟩ prog_10_method_24_code 2 (some FieldType.int)) ∈ lw_t2 := List.mem_filter.mpr ⟨List.mem_of_getElem? (i := 669) (by decide +kernel), by decide +kernel⟩
theorem wd_619 : (Cond.methodLink "EditorCoreModel" 182 ⟨"EditorCoreModel", "begins", "(IIIII)Z"⟩) ∈ lw_t2 := List.mem_filter.mpr ⟨List.mem_of_getElem? (i := 670) (by decide +kernel), by decide +kernel⟩
theorem wd_621 : (Cond.instanceMethod ⟨"EditorCoreModel", "begins", "(IIIII)Z"⟩) ∈ lw_t2 := List.mem_filter.mpr ⟨List.mem_of_getElem? (i := 672) (by decide +kernel), by decide +kernel⟩
theorem wd_622 : (Cond.code ⟨"EditorCoreModel", "begins", "(IIIII)Z"⟩ prog_10_method_26_code 6 (some FieldType.boolean)) ∈ lw_t2 := List.mem_filter.mpr ⟨List.mem_of_getElem? (i := 673) (by decide +kernel), by decide +kernel⟩
theorem wd_623 : (Cond.methodLink "EditorCoreModel" 186 ⟨"EditorCoreModel", "dropBinding", "(I)V"⟩) ∈ lw_t2 := List.mem_filter.mpr ⟨List.mem_of_getElem? (i := 674) (by decide +kernel), by decide +kernel⟩
theorem wd_625 : (Cond.instanceMethod ⟨"EditorCoreModel", "dropBinding", "(I)V"⟩) ∈ lw_t2 := List.mem_filter.mpr ⟨List.mem_of_getElem? (i := 676) (by decide +kernel), by decide +kernel⟩
theorem wd_626 : (Cond.code ⟨"EditorCoreModel", "dropBinding", "(I)V"⟩ prog_10_method_25_code 3 none) ∈ lw_t2 := List.mem_filter.mpr ⟨List.mem_of_getElem? (i := 677) (by decide +kernel), by decide +kernel⟩
theorem wd_627 : (Cond.methodLink "EditorCoreLaw" 17 ⟨"EditorCoreModel", "type", "(I)I"⟩) ∈ lw_t2 := List.mem_filter.mpr ⟨List.mem_of_getElem? (i := 678) (by decide +kernel), by decide +kernel⟩
theorem wd_628 : (Cond.instanceMethod ⟨"EditorCoreModel", "type", "(I)I"⟩) ∈ lw_t2 := List.mem_filter.mpr ⟨List.mem_of_getElem? (i := 679) (by decide +kernel), by decide +kernel⟩
theorem wd_629 : (Cond.selects "EditorCoreModel" ⟨"EditorCoreModel", "type", "(I)I"⟩ ⟨"EditorCoreModel", "type", "(I)I"⟩) ∈ lw_t2 := List.mem_filter.mpr ⟨List.mem_of_getElem? (i := 680) (by decide +kernel), by decide +kernel⟩
theorem wd_630 : (Cond.code ⟨"EditorCoreModel", "type", "(I)I"⟩ prog_10_method_31_code 3 (some FieldType.int)) ∈ lw_t2 := List.mem_filter.mpr ⟨List.mem_of_getElem? (i := 681) (by decide +kernel), by decide +kernel⟩
theorem wd_631 : (Cond.methodLink "EditorCoreModel" 199 ⟨"EditorCoreModel", "insert", "(I)I"⟩) ∈ lw_t2 := List.mem_filter.mpr ⟨List.mem_of_getElem? (i := 682) (by decide +kernel), by decide +kernel⟩
theorem wd_633 : (Cond.instanceMethod ⟨"EditorCoreModel", "insert", "(I)I"⟩) ∈ lw_t2 := List.mem_filter.mpr ⟨List.mem_of_getElem? (i := 684) (by decide +kernel), by decide +kernel⟩
theorem wd_634 : (Cond.code ⟨"EditorCoreModel", "insert", "(I)I"⟩ prog_10_method_7_code 3 (some FieldType.int)) ∈ lw_t2 := List.mem_filter.mpr ⟨List.mem_of_getElem? (i := 685) (by decide +kernel), by decide +kernel⟩
theorem wd_635 : (Cond.methodLink "EditorCoreModel" 92 ⟨"EditorCoreModel", "letter", "(I)Z"⟩) ∈ lw_t2 := List.mem_filter.mpr ⟨List.mem_of_getElem? (i := 686) (by decide +kernel), by decide +kernel⟩
theorem wd_636 : (Cond.static ⟨"EditorCoreModel", "letter", "(I)Z"⟩) ∈ lw_t2 := List.mem_filter.mpr ⟨List.mem_of_getElem? (i := 687) (by decide +kernel), by decide +kernel⟩
theorem wd_637 : (Cond.code ⟨"EditorCoreModel", "letter", "(I)Z"⟩ prog_10_method_2_code 1 (some FieldType.boolean)) ∈ lw_t2 := List.mem_filter.mpr ⟨List.mem_of_getElem? (i := 688) (by decide +kernel), by decide +kernel⟩
theorem wd_638 : (Cond.methodLink "EditorCoreModel" 88 ⟨"EditorCoreModel", "edit", "(II)V"⟩) ∈ lw_t2 := List.mem_filter.mpr ⟨List.mem_of_getElem? (i := 689) (by decide +kernel), by decide +kernel⟩
theorem wd_640 : (Cond.instanceMethod ⟨"EditorCoreModel", "edit", "(II)V"⟩) ∈ lw_t2 := List.mem_filter.mpr ⟨List.mem_of_getElem? (i := 691) (by decide +kernel), by decide +kernel⟩
theorem wd_641 : (Cond.code ⟨"EditorCoreModel", "edit", "(II)V"⟩ prog_10_method_4_code 5 none) ∈ lw_t2 := List.mem_filter.mpr ⟨List.mem_of_getElem? (i := 692) (by decide +kernel), by decide +kernel⟩
theorem wd_642 : (Cond.methodLink "EditorCoreModel" 81 ⟨"EditorCoreModel", "moved", "(IIIIZ)I"⟩) ∈ lw_t2 := List.mem_filter.mpr ⟨List.mem_of_getElem? (i := 693) (by decide +kernel), by decide +kernel⟩
theorem wd_643 : (Cond.static ⟨"EditorCoreModel", "moved", "(IIIIZ)I"⟩) ∈ lw_t2 := List.mem_filter.mpr ⟨List.mem_of_getElem? (i := 694) (by decide +kernel), by decide +kernel⟩
theorem wd_644 : (Cond.code ⟨"EditorCoreModel", "moved", "(IIIIZ)I"⟩ prog_10_method_3_code 5 (some FieldType.int)) ∈ lw_t2 := List.mem_filter.mpr ⟨List.mem_of_getElem? (i := 695) (by decide +kernel), by decide +kernel⟩
theorem wd_645 : (Cond.methodLink "EditorCoreModel" 99 ⟨"EditorCoreModel", "step", "(II)V"⟩) ∈ lw_t2 := List.mem_filter.mpr ⟨List.mem_of_getElem? (i := 696) (by decide +kernel), by decide +kernel⟩
theorem wd_647 : (Cond.instanceMethod ⟨"EditorCoreModel", "step", "(II)V"⟩) ∈ lw_t2 := List.mem_filter.mpr ⟨List.mem_of_getElem? (i := 698) (by decide +kernel), by decide +kernel⟩
theorem wd_648 : (Cond.code ⟨"EditorCoreModel", "step", "(II)V"⟩ prog_10_method_5_code 5 none) ∈ lw_t2 := List.mem_filter.mpr ⟨List.mem_of_getElem? (i := 699) (by decide +kernel), by decide +kernel⟩
theorem wd_649 : (Cond.methodLink "EditorCoreModel" 102 ⟨"EditorCoreModel", "done", "(I)I"⟩) ∈ lw_t2 := List.mem_filter.mpr ⟨List.mem_of_getElem? (i := 700) (by decide +kernel), by decide +kernel⟩
theorem wd_651 : (Cond.instanceMethod ⟨"EditorCoreModel", "done", "(I)I"⟩) ∈ lw_t2 := List.mem_filter.mpr ⟨List.mem_of_getElem? (i := 702) (by decide +kernel), by decide +kernel⟩
theorem wd_652 : (Cond.code ⟨"EditorCoreModel", "done", "(I)I"⟩ prog_10_method_6_code 2 (some FieldType.int)) ∈ lw_t2 := List.mem_filter.mpr ⟨List.mem_of_getElem? (i := 703) (by decide +kernel), by decide +kernel⟩
theorem wd_653 : (Cond.methodLink "EditorCoreModel" 208 ⟨"EditorCoreModel", "jot", "(I)V"⟩) ∈ lw_t2 := List.mem_filter.mpr ⟨List.mem_of_getElem? (i := 704) (by decide +kernel), by decide +kernel⟩
theorem wd_655 : (Cond.instanceMethod ⟨"EditorCoreModel", "jot", "(I)V"⟩) ∈ lw_t2 := List.mem_filter.mpr ⟨List.mem_of_getElem? (i := 706) (by decide +kernel), by decide +kernel⟩
theorem wd_656 : (Cond.code ⟨"EditorCoreModel", "jot", "(I)V"⟩ prog_10_method_30_code 2 none) ∈ lw_t2 := List.mem_filter.mpr ⟨List.mem_of_getElem? (i := 707) (by decide +kernel), by decide +kernel⟩
theorem wd_657 : (Cond.methodLink "EditorCoreLaw" 21 ⟨"EditorCoreModel", "command", "(I)I"⟩) ∈ lw_t2 := List.mem_filter.mpr ⟨List.mem_of_getElem? (i := 708) (by decide +kernel), by decide +kernel⟩
theorem wd_658 : (Cond.instanceMethod ⟨"EditorCoreModel", "command", "(I)I"⟩) ∈ lw_t2 := List.mem_filter.mpr ⟨List.mem_of_getElem? (i := 709) (by decide +kernel), by decide +kernel⟩
theorem wd_659 : (Cond.selects "EditorCoreModel" ⟨"EditorCoreModel", "command", "(I)I"⟩ ⟨"EditorCoreModel", "command", "(I)I"⟩) ∈ lw_t2 := List.mem_filter.mpr ⟨List.mem_of_getElem? (i := 710) (by decide +kernel), by decide +kernel⟩
theorem wd_660 : (Cond.code ⟨"EditorCoreModel", "command", "(I)I"⟩ prog_10_method_32_code 2 (some FieldType.int)) ∈ lw_t2 := List.mem_filter.mpr ⟨List.mem_of_getElem? (i := 711) (by decide +kernel), by decide +kernel⟩
theorem wd_661 : (Cond.methodLink "EditorCoreModel" 211 ⟨"EditorCoreModel", "play", "()I"⟩) ∈ lw_t2 := List.mem_filter.mpr ⟨List.mem_of_getElem? (i := 712) (by decide +kernel), by decide +kernel⟩
theorem wd_663 : (Cond.instanceMethod ⟨"EditorCoreModel", "play", "()I"⟩) ∈ lw_t2 := List.mem_filter.mpr ⟨List.mem_of_getElem? (i := 714) (by decide +kernel), by decide +kernel⟩
theorem wd_664 : (Cond.code ⟨"EditorCoreModel", "play", "()I"⟩ prog_10_method_29_code 6 (some FieldType.int)) ∈ lw_t2 := List.mem_filter.mpr ⟨List.mem_of_getElem? (i := 715) (by decide +kernel), by decide +kernel⟩
theorem wd_665 : (Cond.methodLink "EditorCoreModel" 202 ⟨"EditorCoreModel", "resolve", "(I)I"⟩) ∈ lw_t2 := List.mem_filter.mpr ⟨List.mem_of_getElem? (i := 716) (by decide +kernel), by decide +kernel⟩
theorem wd_667 : (Cond.instanceMethod ⟨"EditorCoreModel", "resolve", "(I)I"⟩) ∈ lw_t2 := List.mem_filter.mpr ⟨List.mem_of_getElem? (i := 718) (by decide +kernel), by decide +kernel⟩
theorem wd_668 : (Cond.code ⟨"EditorCoreModel", "resolve", "(I)I"⟩ prog_10_method_28_code 4 (some FieldType.int)) ∈ lw_t2 := List.mem_filter.mpr ⟨List.mem_of_getElem? (i := 719) (by decide +kernel), by decide +kernel⟩
theorem wd_669 : (Cond.methodLink "EditorCoreModel" 205 ⟨"EditorCoreModel", "perform", "(I)I"⟩) ∈ lw_t2 := List.mem_filter.mpr ⟨List.mem_of_getElem? (i := 720) (by decide +kernel), by decide +kernel⟩
theorem wd_671 : (Cond.instanceMethod ⟨"EditorCoreModel", "perform", "(I)I"⟩) ∈ lw_t2 := List.mem_filter.mpr ⟨List.mem_of_getElem? (i := 722) (by decide +kernel), by decide +kernel⟩
theorem wd_672 : (Cond.code ⟨"EditorCoreModel", "perform", "(I)I"⟩ prog_10_method_23_code 3 (some FieldType.int)) ∈ lw_t2 := List.mem_filter.mpr ⟨List.mem_of_getElem? (i := 723) (by decide +kernel), by decide +kernel⟩
theorem wd_673 : (Cond.methodLink "EditorCoreModel" 173 ⟨"EditorCoreModel", "work", "(I)I"⟩) ∈ lw_t2 := List.mem_filter.mpr ⟨List.mem_of_getElem? (i := 724) (by decide +kernel), by decide +kernel⟩
theorem wd_675 : (Cond.instanceMethod ⟨"EditorCoreModel", "work", "(I)I"⟩) ∈ lw_t2 := List.mem_filter.mpr ⟨List.mem_of_getElem? (i := 726) (by decide +kernel), by decide +kernel⟩
theorem wd_676 : (Cond.code ⟨"EditorCoreModel", "work", "(I)I"⟩ prog_10_method_22_code 2 (some FieldType.int)) ∈ lw_t2 := List.mem_filter.mpr ⟨List.mem_of_getElem? (i := 727) (by decide +kernel), by decide +kernel⟩
theorem wd_677 : (Cond.methodLink "EditorCoreModel" 122 ⟨"EditorCoreModel", "erase", "(II)I"⟩) ∈ lw_t2 := List.mem_filter.mpr ⟨List.mem_of_getElem? (i := 728) (by decide +kernel), by decide +kernel⟩
theorem wd_679 : (Cond.instanceMethod ⟨"EditorCoreModel", "erase", "(II)I"⟩) ∈ lw_t2 := List.mem_filter.mpr ⟨List.mem_of_getElem? (i := 730) (by decide +kernel), by decide +kernel⟩
theorem wd_680 : (Cond.code ⟨"EditorCoreModel", "erase", "(II)I"⟩ prog_10_method_12_code 3 (some FieldType.int)) ∈ lw_t2 := List.mem_filter.mpr ⟨List.mem_of_getElem? (i := 731) (by decide +kernel), by decide +kernel⟩
theorem wd_681 : (Cond.methodLink "EditorCoreModel" 146 ⟨"EditorCoreModel", "killLine", "()I"⟩) ∈ lw_t2 := List.mem_filter.mpr ⟨List.mem_of_getElem? (i := 732) (by decide +kernel), by decide +kernel⟩
theorem wd_683 : (Cond.instanceMethod ⟨"EditorCoreModel", "killLine", "()I"⟩) ∈ lw_t2 := List.mem_filter.mpr ⟨List.mem_of_getElem? (i := 734) (by decide +kernel), by decide +kernel⟩
theorem wd_684 : (Cond.code ⟨"EditorCoreModel", "killLine", "()I"⟩ prog_10_method_14_code 3 (some FieldType.int)) ∈ lw_t2 := List.mem_filter.mpr ⟨List.mem_of_getElem? (i := 735) (by decide +kernel), by decide +kernel⟩
theorem wd_685 : (Cond.methodLink "EditorCoreModel" 112 ⟨"EditorCoreModel", "lineEnd", "(I)I"⟩) ∈ lw_t2 := List.mem_filter.mpr ⟨List.mem_of_getElem? (i := 736) (by decide +kernel), by decide +kernel⟩
theorem wd_687 : (Cond.instanceMethod ⟨"EditorCoreModel", "lineEnd", "(I)I"⟩) ∈ lw_t2 := List.mem_filter.mpr ⟨List.mem_of_getElem? (i := 738) (by decide +kernel), by decide +kernel⟩
theorem wd_688 : (Cond.code ⟨"EditorCoreModel", "lineEnd", "(I)I"⟩ prog_10_method_9_code 3 (some FieldType.int)) ∈ lw_t2 := List.mem_filter.mpr ⟨List.mem_of_getElem? (i := 739) (by decide +kernel), by decide +kernel⟩
theorem wd_689 : (Cond.methodLink "EditorCoreModel" 118 ⟨"EditorCoreModel", "keep", "(IIZ)V"⟩) ∈ lw_t2 := List.mem_filter.mpr ⟨List.mem_of_getElem? (i := 740) (by decide +kernel), by decide +kernel⟩
theorem wd_691 : (Cond.instanceMethod ⟨"EditorCoreModel", "keep", "(IIZ)V"⟩) ∈ lw_t2 := List.mem_filter.mpr ⟨List.mem_of_getElem? (i := 742) (by decide +kernel), by decide +kernel⟩
theorem wd_692 : (Cond.code ⟨"EditorCoreModel", "keep", "(IIZ)V"⟩ prog_10_method_13_code 6 none) ∈ lw_t2 := List.mem_filter.mpr ⟨List.mem_of_getElem? (i := 743) (by decide +kernel), by decide +kernel⟩
theorem wd_693 : (Cond.methodLink "EditorCoreModel" 150 ⟨"EditorCoreModel", "killRegion", "(Z)I"⟩) ∈ lw_t2 := List.mem_filter.mpr ⟨List.mem_of_getElem? (i := 744) (by decide +kernel), by decide +kernel⟩
theorem wd_695 : (Cond.instanceMethod ⟨"EditorCoreModel", "killRegion", "(Z)I"⟩) ∈ lw_t2 := List.mem_filter.mpr ⟨List.mem_of_getElem? (i := 746) (by decide +kernel), by decide +kernel⟩
theorem wd_696 : (Cond.code ⟨"EditorCoreModel", "killRegion", "(Z)I"⟩ prog_10_method_15_code 4 (some FieldType.int)) ∈ lw_t2 := List.mem_filter.mpr ⟨List.mem_of_getElem? (i := 747) (by decide +kernel), by decide +kernel⟩
theorem wd_697 : (Cond.methodLink "EditorCoreModel" 154 ⟨"EditorCoreModel", "yank", "(III)I"⟩) ∈ lw_t2 := List.mem_filter.mpr ⟨List.mem_of_getElem? (i := 748) (by decide +kernel), by decide +kernel⟩
theorem wd_699 : (Cond.instanceMethod ⟨"EditorCoreModel", "yank", "(III)I"⟩) ∈ lw_t2 := List.mem_filter.mpr ⟨List.mem_of_getElem? (i := 750) (by decide +kernel), by decide +kernel⟩
theorem wd_700 : (Cond.code ⟨"EditorCoreModel", "yank", "(III)I"⟩ prog_10_method_16_code 5 (some FieldType.int)) ∈ lw_t2 := List.mem_filter.mpr ⟨List.mem_of_getElem? (i := 751) (by decide +kernel), by decide +kernel⟩
theorem wd_701 : (Cond.methodLink "EditorCoreModel" 158 ⟨"EditorCoreModel", "exchange", "()I"⟩) ∈ lw_t2 := List.mem_filter.mpr ⟨List.mem_of_getElem? (i := 752) (by decide +kernel), by decide +kernel⟩
theorem wd_703 : (Cond.instanceMethod ⟨"EditorCoreModel", "exchange", "()I"⟩) ∈ lw_t2 := List.mem_filter.mpr ⟨List.mem_of_getElem? (i := 754) (by decide +kernel), by decide +kernel⟩
theorem wd_704 : (Cond.code ⟨"EditorCoreModel", "exchange", "()I"⟩ prog_10_method_20_code 2 (some FieldType.int)) ∈ lw_t2 := List.mem_filter.mpr ⟨List.mem_of_getElem? (i := 755) (by decide +kernel), by decide +kernel⟩
theorem wd_705 : (Cond.methodLink "EditorCoreModel" 161 ⟨"EditorCoreModel", "swap", "()I"⟩) ∈ lw_t2 := List.mem_filter.mpr ⟨List.mem_of_getElem? (i := 756) (by decide +kernel), by decide +kernel⟩
theorem wd_707 : (Cond.instanceMethod ⟨"EditorCoreModel", "swap", "()I"⟩) ∈ lw_t2 := List.mem_filter.mpr ⟨List.mem_of_getElem? (i := 758) (by decide +kernel), by decide +kernel⟩
theorem wd_708 : (Cond.code ⟨"EditorCoreModel", "swap", "()I"⟩ prog_10_method_17_code 2 (some FieldType.int)) ∈ lw_t2 := List.mem_filter.mpr ⟨List.mem_of_getElem? (i := 759) (by decide +kernel), by decide +kernel⟩
theorem wd_709 : (Cond.methodLink "EditorCoreModel" 164 ⟨"EditorCoreModel", "undo", "()I"⟩) ∈ lw_t2 := List.mem_filter.mpr ⟨List.mem_of_getElem? (i := 760) (by decide +kernel), by decide +kernel⟩
theorem wd_711 : (Cond.instanceMethod ⟨"EditorCoreModel", "undo", "()I"⟩) ∈ lw_t2 := List.mem_filter.mpr ⟨List.mem_of_getElem? (i := 762) (by decide +kernel), by decide +kernel⟩
theorem wd_712 : (Cond.code ⟨"EditorCoreModel", "undo", "()I"⟩ prog_10_method_18_code 5 (some FieldType.int)) ∈ lw_t2 := List.mem_filter.mpr ⟨List.mem_of_getElem? (i := 763) (by decide +kernel), by decide +kernel⟩
theorem wd_713 : (Cond.methodLink "EditorCoreModel" 167 ⟨"EditorCoreModel", "search", "()I"⟩) ∈ lw_t2 := List.mem_filter.mpr ⟨List.mem_of_getElem? (i := 764) (by decide +kernel), by decide +kernel⟩
theorem wd_715 : (Cond.instanceMethod ⟨"EditorCoreModel", "search", "()I"⟩) ∈ lw_t2 := List.mem_filter.mpr ⟨List.mem_of_getElem? (i := 766) (by decide +kernel), by decide +kernel⟩
theorem wd_716 : (Cond.code ⟨"EditorCoreModel", "search", "()I"⟩ prog_10_method_19_code 4 (some FieldType.int)) ∈ lw_t2 := List.mem_filter.mpr ⟨List.mem_of_getElem? (i := 767) (by decide +kernel), by decide +kernel⟩
theorem wd_717 : (Cond.methodLink "EditorCoreModel" 170 ⟨"EditorCoreModel", "move", "(I)I"⟩) ∈ lw_t2 := List.mem_filter.mpr ⟨List.mem_of_getElem? (i := 768) (by decide +kernel), by decide +kernel⟩
theorem wd_719 : (Cond.instanceMethod ⟨"EditorCoreModel", "move", "(I)I"⟩) ∈ lw_t2 := List.mem_filter.mpr ⟨List.mem_of_getElem? (i := 770) (by decide +kernel), by decide +kernel⟩
theorem wd_720 : (Cond.code ⟨"EditorCoreModel", "move", "(I)I"⟩ prog_10_method_21_code 2 (some FieldType.int)) ∈ lw_t2 := List.mem_filter.mpr ⟨List.mem_of_getElem? (i := 771) (by decide +kernel), by decide +kernel⟩
theorem wd_721 : (Cond.methodLink "EditorCoreModel" 138 ⟨"EditorCoreModel", "vertical", "(I)V"⟩) ∈ lw_t2 := List.mem_filter.mpr ⟨List.mem_of_getElem? (i := 772) (by decide +kernel), by decide +kernel⟩
theorem wd_723 : (Cond.instanceMethod ⟨"EditorCoreModel", "vertical", "(I)V"⟩) ∈ lw_t2 := List.mem_filter.mpr ⟨List.mem_of_getElem? (i := 774) (by decide +kernel), by decide +kernel⟩
theorem wd_724 : (Cond.code ⟨"EditorCoreModel", "vertical", "(I)V"⟩ prog_10_method_10_code 5 none) ∈ lw_t2 := List.mem_filter.mpr ⟨List.mem_of_getElem? (i := 775) (by decide +kernel), by decide +kernel⟩
theorem wd_725 : (Cond.methodLink "EditorCoreModel" 106 ⟨"EditorCoreModel", "lineStart", "(I)I"⟩) ∈ lw_t2 := List.mem_filter.mpr ⟨List.mem_of_getElem? (i := 776) (by decide +kernel), by decide +kernel⟩
theorem wd_727 : (Cond.instanceMethod ⟨"EditorCoreModel", "lineStart", "(I)I"⟩) ∈ lw_t2 := List.mem_filter.mpr ⟨List.mem_of_getElem? (i := 778) (by decide +kernel), by decide +kernel⟩
theorem wd_728 : (Cond.code ⟨"EditorCoreModel", "lineStart", "(I)I"⟩ prog_10_method_8_code 3 (some FieldType.int)) ∈ lw_t2 := List.mem_filter.mpr ⟨List.mem_of_getElem? (i := 779) (by decide +kernel), by decide +kernel⟩
theorem wd_729 : (Cond.methodLink "EditorCoreModel" 142 ⟨"EditorCoreModel", "words", "(Z)V"⟩) ∈ lw_t2 := List.mem_filter.mpr ⟨List.mem_of_getElem? (i := 780) (by decide +kernel), by decide +kernel⟩
theorem wd_731 : (Cond.instanceMethod ⟨"EditorCoreModel", "words", "(Z)V"⟩) ∈ lw_t2 := List.mem_filter.mpr ⟨List.mem_of_getElem? (i := 782) (by decide +kernel), by decide +kernel⟩
theorem wd_732 : (Cond.code ⟨"EditorCoreModel", "words", "(Z)V"⟩ prog_10_method_11_code 3 none) ∈ lw_t2 := List.mem_filter.mpr ⟨List.mem_of_getElem? (i := 783) (by decide +kernel), by decide +kernel⟩
theorem wd_733 : (Cond.methodLink "EditorCoreLaw" 25 ⟨"EditorCoreModel", "argument", "(I)I"⟩) ∈ lw_t2 := List.mem_filter.mpr ⟨List.mem_of_getElem? (i := 784) (by decide +kernel), by decide +kernel⟩
theorem wd_734 : (Cond.instanceMethod ⟨"EditorCoreModel", "argument", "(I)I"⟩) ∈ lw_t2 := List.mem_filter.mpr ⟨List.mem_of_getElem? (i := 785) (by decide +kernel), by decide +kernel⟩
theorem wd_735 : (Cond.selects "EditorCoreModel" ⟨"EditorCoreModel", "argument", "(I)I"⟩ ⟨"EditorCoreModel", "argument", "(I)I"⟩) ∈ lw_t2 := List.mem_filter.mpr ⟨List.mem_of_getElem? (i := 786) (by decide +kernel), by decide +kernel⟩
theorem wd_736 : (Cond.code ⟨"EditorCoreModel", "argument", "(I)I"⟩ prog_10_method_33_code 2 (some FieldType.int)) ∈ lw_t2 := List.mem_filter.mpr ⟨List.mem_of_getElem? (i := 787) (by decide +kernel), by decide +kernel⟩
theorem wd_737 : (Cond.methodLink "EditorCoreLaw" 34 ⟨"EditorCoreModel", "press", "(I)I"⟩) ∈ lw_t2 := List.mem_filter.mpr ⟨List.mem_of_getElem? (i := 788) (by decide +kernel), by decide +kernel⟩
theorem wd_738 : (Cond.instanceMethod ⟨"EditorCoreModel", "press", "(I)I"⟩) ∈ lw_t2 := List.mem_filter.mpr ⟨List.mem_of_getElem? (i := 789) (by decide +kernel), by decide +kernel⟩
theorem wd_739 : (Cond.selects "EditorCoreModel" ⟨"EditorCoreModel", "press", "(I)I"⟩ ⟨"EditorCoreModel", "press", "(I)I"⟩) ∈ lw_t2 := List.mem_filter.mpr ⟨List.mem_of_getElem? (i := 790) (by decide +kernel), by decide +kernel⟩
theorem wd_740 : (Cond.code ⟨"EditorCoreModel", "press", "(I)I"⟩ prog_10_method_34_code 3 (some FieldType.int)) ∈ lw_t2 := List.mem_filter.mpr ⟨List.mem_of_getElem? (i := 791) (by decide +kernel), by decide +kernel⟩
theorem wd_741 : (Cond.methodLink "EditorCoreLaw" 39 ⟨"EditorCoreModel", "macro", "(Z)I"⟩) ∈ lw_t2 := List.mem_filter.mpr ⟨List.mem_of_getElem? (i := 792) (by decide +kernel), by decide +kernel⟩
theorem wd_742 : (Cond.instanceMethod ⟨"EditorCoreModel", "macro", "(Z)I"⟩) ∈ lw_t2 := List.mem_filter.mpr ⟨List.mem_of_getElem? (i := 793) (by decide +kernel), by decide +kernel⟩
theorem wd_743 : (Cond.selects "EditorCoreModel" ⟨"EditorCoreModel", "macro", "(Z)I"⟩ ⟨"EditorCoreModel", "macro", "(Z)I"⟩) ∈ lw_t2 := List.mem_filter.mpr ⟨List.mem_of_getElem? (i := 794) (by decide +kernel), by decide +kernel⟩
theorem wd_744 : (Cond.code ⟨"EditorCoreModel", "macro", "(Z)I"⟩ prog_10_method_35_code 2 (some FieldType.int)) ∈ lw_t2 := List.mem_filter.mpr ⟨List.mem_of_getElem? (i := 795) (by decide +kernel), by decide +kernel⟩
theorem wd_745 : (Cond.methodLink "EditorCoreLaw" 44 ⟨"EditorCoreModel", "marker", "(IZ)I"⟩) ∈ lw_t2 := List.mem_filter.mpr ⟨List.mem_of_getElem? (i := 796) (by decide +kernel), by decide +kernel⟩
theorem wd_746 : (Cond.instanceMethod ⟨"EditorCoreModel", "marker", "(IZ)I"⟩) ∈ lw_t2 := List.mem_filter.mpr ⟨List.mem_of_getElem? (i := 797) (by decide +kernel), by decide +kernel⟩
theorem wd_747 : (Cond.selects "EditorCoreModel" ⟨"EditorCoreModel", "marker", "(IZ)I"⟩ ⟨"EditorCoreModel", "marker", "(IZ)I"⟩) ∈ lw_t2 := List.mem_filter.mpr ⟨List.mem_of_getElem? (i := 798) (by decide +kernel), by decide +kernel⟩
theorem wd_748 : (Cond.code ⟨"EditorCoreModel", "marker", "(IZ)I"⟩ prog_10_method_36_code 3 (some FieldType.int)) ∈ lw_t2 := List.mem_filter.mpr ⟨List.mem_of_getElem? (i := 799) (by decide +kernel), by decide +kernel⟩
theorem wd_749 : (Cond.methodLink "EditorCoreLaw" 49 ⟨"EditorCoreModel", "frame", "(II)I"⟩) ∈ lw_t2 := List.mem_filter.mpr ⟨List.mem_of_getElem? (i := 800) (by decide +kernel), by decide +kernel⟩
theorem wd_750 : (Cond.instanceMethod ⟨"EditorCoreModel", "frame", "(II)I"⟩) ∈ lw_t2 := List.mem_filter.mpr ⟨List.mem_of_getElem? (i := 801) (by decide +kernel), by decide +kernel⟩
theorem wd_751 : (Cond.selects "EditorCoreModel" ⟨"EditorCoreModel", "frame", "(II)I"⟩ ⟨"EditorCoreModel", "frame", "(II)I"⟩) ∈ lw_t2 := List.mem_filter.mpr ⟨List.mem_of_getElem? (i := 802) (by decide +kernel), by decide +kernel⟩
theorem wd_752 : (Cond.code ⟨"EditorCoreModel", "frame", "(II)I"⟩ prog_10_method_37_code 3 (some FieldType.int)) ∈ lw_t2 := List.mem_filter.mpr ⟨List.mem_of_getElem? (i := 803) (by decide +kernel), by decide +kernel⟩
theorem wd_753 : (Cond.methodLink "EditorCoreLaw" 65 ⟨"EditorCoreModel", "cell", "(II)I"⟩) ∈ lw_t2 := List.mem_filter.mpr ⟨List.mem_of_getElem? (i := 804) (by decide +kernel), by decide +kernel⟩
theorem wd_754 : (Cond.instanceMethod ⟨"EditorCoreModel", "cell", "(II)I"⟩) ∈ lw_t2 := List.mem_filter.mpr ⟨List.mem_of_getElem? (i := 805) (by decide +kernel), by decide +kernel⟩
theorem wd_755 : (Cond.selects "EditorCoreModel" ⟨"EditorCoreModel", "cell", "(II)I"⟩ ⟨"EditorCoreModel", "cell", "(II)I"⟩) ∈ lw_t2 := List.mem_filter.mpr ⟨List.mem_of_getElem? (i := 806) (by decide +kernel), by decide +kernel⟩
theorem wd_756 : (Cond.code ⟨"EditorCoreModel", "cell", "(II)I"⟩ prog_10_method_41_code 7 (some FieldType.int)) ∈ lw_t2 := List.mem_filter.mpr ⟨List.mem_of_getElem? (i := 807) (by decide +kernel), by decide +kernel⟩
theorem wd_757 : (Cond.methodLink "EditorCoreModel" 223 ⟨"EditorCoreModel", "show", "()V"⟩) ∈ lw_t2 := List.mem_filter.mpr ⟨List.mem_of_getElem? (i := 808) (by decide +kernel), by decide +kernel⟩
theorem wd_759 : (Cond.instanceMethod ⟨"EditorCoreModel", "show", "()V"⟩) ∈ lw_t2 := List.mem_filter.mpr ⟨List.mem_of_getElem? (i := 810) (by decide +kernel), by decide +kernel⟩
theorem wd_760 : (Cond.code ⟨"EditorCoreModel", "show", "()V"⟩ prog_10_method_40_code 2 none) ∈ lw_t2 := List.mem_filter.mpr ⟨List.mem_of_getElem? (i := 811) (by decide +kernel), by decide +kernel⟩
theorem wd_761 : (Cond.methodLink "EditorCoreModel" 220 ⟨"EditorCoreModel", "pointRow", "()I"⟩) ∈ lw_t2 := List.mem_filter.mpr ⟨List.mem_of_getElem? (i := 812) (by decide +kernel), by decide +kernel⟩
theorem wd_763 : (Cond.instanceMethod ⟨"EditorCoreModel", "pointRow", "()I"⟩) ∈ lw_t2 := List.mem_filter.mpr ⟨List.mem_of_getElem? (i := 814) (by decide +kernel), by decide +kernel⟩
theorem wd_764 : (Cond.code ⟨"EditorCoreModel", "pointRow", "()I"⟩ prog_10_method_39_code 2 (some FieldType.int)) ∈ lw_t2 := List.mem_filter.mpr ⟨List.mem_of_getElem? (i := 815) (by decide +kernel), by decide +kernel⟩
theorem wd_765 : (Cond.methodLink "EditorCoreModel" 217 ⟨"EditorCoreModel", "rowsBefore", "(I)I"⟩) ∈ lw_t2 := List.mem_filter.mpr ⟨List.mem_of_getElem? (i := 816) (by decide +kernel), by decide +kernel⟩
theorem wd_767 : (Cond.instanceMethod ⟨"EditorCoreModel", "rowsBefore", "(I)I"⟩) ∈ lw_t2 := List.mem_filter.mpr ⟨List.mem_of_getElem? (i := 818) (by decide +kernel), by decide +kernel⟩
theorem wd_768 : (Cond.code ⟨"EditorCoreModel", "rowsBefore", "(I)I"⟩ prog_10_method_38_code 4 (some FieldType.int)) ∈ lw_t2 := List.mem_filter.mpr ⟨List.mem_of_getElem? (i := 819) (by decide +kernel), by decide +kernel⟩
theorem wd_769 : (Cond.methodLink "EditorCoreLaw" 53 ⟨"EditorCoreModel", "character", "(I)I"⟩) ∈ lw_t2 := List.mem_filter.mpr ⟨List.mem_of_getElem? (i := 820) (by decide +kernel), by decide +kernel⟩
theorem wd_770 : (Cond.instanceMethod ⟨"EditorCoreModel", "character", "(I)I"⟩) ∈ lw_t2 := List.mem_filter.mpr ⟨List.mem_of_getElem? (i := 821) (by decide +kernel), by decide +kernel⟩
theorem wd_771 : (Cond.selects "EditorCoreModel" ⟨"EditorCoreModel", "character", "(I)I"⟩ ⟨"EditorCoreModel", "character", "(I)I"⟩) ∈ lw_t2 := List.mem_filter.mpr ⟨List.mem_of_getElem? (i := 822) (by decide +kernel), by decide +kernel⟩
theorem wd_772 : (Cond.code ⟨"EditorCoreModel", "character", "(I)I"⟩ prog_10_method_42_code 2 (some FieldType.int)) ∈ lw_t2 := List.mem_filter.mpr ⟨List.mem_of_getElem? (i := 823) (by decide +kernel), by decide +kernel⟩
theorem wd_773 : (Cond.methodLink "EditorCoreLaw" 57 ⟨"EditorCoreModel", "markerAt", "(I)I"⟩) ∈ lw_t2 := List.mem_filter.mpr ⟨List.mem_of_getElem? (i := 824) (by decide +kernel), by decide +kernel⟩
theorem wd_774 : (Cond.instanceMethod ⟨"EditorCoreModel", "markerAt", "(I)I"⟩) ∈ lw_t2 := List.mem_filter.mpr ⟨List.mem_of_getElem? (i := 825) (by decide +kernel), by decide +kernel⟩
theorem wd_775 : (Cond.selects "EditorCoreModel" ⟨"EditorCoreModel", "markerAt", "(I)I"⟩ ⟨"EditorCoreModel", "markerAt", "(I)I"⟩) ∈ lw_t2 := List.mem_filter.mpr ⟨List.mem_of_getElem? (i := 826) (by decide +kernel), by decide +kernel⟩
theorem wd_776 : (Cond.code ⟨"EditorCoreModel", "markerAt", "(I)I"⟩ prog_10_method_43_code 2 (some FieldType.int)) ∈ lw_t2 := List.mem_filter.mpr ⟨List.mem_of_getElem? (i := 827) (by decide +kernel), by decide +kernel⟩
theorem wd_777 : (Cond.methodLink "EditorCoreLaw" 61 ⟨"EditorCoreModel", "killed", "(II)I"⟩) ∈ lw_t2 := List.mem_filter.mpr ⟨List.mem_of_getElem? (i := 828) (by decide +kernel), by decide +kernel⟩
theorem wd_778 : (Cond.instanceMethod ⟨"EditorCoreModel", "killed", "(II)I"⟩) ∈ lw_t2 := List.mem_filter.mpr ⟨List.mem_of_getElem? (i := 829) (by decide +kernel), by decide +kernel⟩
theorem wd_779 : (Cond.selects "EditorCoreModel" ⟨"EditorCoreModel", "killed", "(II)I"⟩ ⟨"EditorCoreModel", "killed", "(II)I"⟩) ∈ lw_t2 := List.mem_filter.mpr ⟨List.mem_of_getElem? (i := 830) (by decide +kernel), by decide +kernel⟩
theorem wd_780 : (Cond.code ⟨"EditorCoreModel", "killed", "(II)I"⟩ prog_10_method_44_code 3 (some FieldType.int)) ∈ lw_t2 := List.mem_filter.mpr ⟨List.mem_of_getElem? (i := 831) (by decide +kernel), by decide +kernel⟩
theorem wd_781 : (Cond.methodLink "EditorCoreLaw" 69 ⟨"EditorCoreModel", "info", "(I)I"⟩) ∈ lw_t2 := List.mem_filter.mpr ⟨List.mem_of_getElem? (i := 832) (by decide +kernel), by decide +kernel⟩
theorem wd_782 : (Cond.instanceMethod ⟨"EditorCoreModel", "info", "(I)I"⟩) ∈ lw_t2 := List.mem_filter.mpr ⟨List.mem_of_getElem? (i := 833) (by decide +kernel), by decide +kernel⟩
theorem wd_783 : (Cond.selects "EditorCoreModel" ⟨"EditorCoreModel", "info", "(I)I"⟩ ⟨"EditorCoreModel", "info", "(I)I"⟩) ∈ lw_t2 := List.mem_filter.mpr ⟨List.mem_of_getElem? (i := 834) (by decide +kernel), by decide +kernel⟩
theorem wd_784 : (Cond.code ⟨"EditorCoreModel", "info", "(I)I"⟩ prog_10_method_45_code 3 (some FieldType.int)) ∈ lw_t2 := List.mem_filter.mpr ⟨List.mem_of_getElem? (i := 835) (by decide +kernel), by decide +kernel⟩
theorem ws_0 : Cond.selects "EditorCore" ⟨"EditorCore", "insert", "(I)I"⟩ ⟨"EditorCore", "insert", "(I)I"⟩ ∈ lw_t2 := List.mem_filter.mpr ⟨List.mem_of_getElem? (i := 0) (by decide +kernel), by decide +kernel⟩
theorem ws_1 : Cond.selects "EditorCore" ⟨"EditorCore", "finish", "(I)V"⟩ ⟨"EditorCore", "finish", "(I)V"⟩ ∈ lw_t2 := List.mem_filter.mpr ⟨List.mem_of_getElem? (i := 1) (by decide +kernel), by decide +kernel⟩
theorem ws_2 : Cond.selects "EditorCore" ⟨"EditorCore", "replay", "()I"⟩ ⟨"EditorCore", "replay", "()I"⟩ ∈ lw_t2 := List.mem_filter.mpr ⟨List.mem_of_getElem? (i := 2) (by decide +kernel), by decide +kernel⟩
theorem ws_3 : Cond.selects "EditorCore" ⟨"EditorCore", "perform", "(I)I"⟩ ⟨"EditorCore", "perform", "(I)I"⟩ ∈ lw_t2 := List.mem_filter.mpr ⟨List.mem_of_getElem? (i := 3) (by decide +kernel), by decide +kernel⟩
theorem ws_4 : Cond.selects "EditorCore" ⟨"EditorCore", "carryOut", "(I)I"⟩ ⟨"EditorCore", "carryOut", "(I)I"⟩ ∈ lw_t2 := List.mem_filter.mpr ⟨List.mem_of_getElem? (i := 4) (by decide +kernel), by decide +kernel⟩
theorem ws_5 : Cond.selects "EditorCore" ⟨"EditorCore", "moveTo", "(I)I"⟩ ⟨"EditorCore", "moveTo", "(I)I"⟩ ∈ lw_t2 := List.mem_filter.mpr ⟨List.mem_of_getElem? (i := 5) (by decide +kernel), by decide +kernel⟩
theorem ws_6 : Cond.selects "EditorCore" ⟨"EditorCore", "moveToGoal", "(I)I"⟩ ⟨"EditorCore", "moveToGoal", "(I)I"⟩ ∈ lw_t2 := List.mem_filter.mpr ⟨List.mem_of_getElem? (i := 6) (by decide +kernel), by decide +kernel⟩
theorem ws_7 : Cond.selects "EditorCore" ⟨"EditorCore", "takeOut", "(II)I"⟩ ⟨"EditorCore", "takeOut", "(II)I"⟩ ∈ lw_t2 := List.mem_filter.mpr ⟨List.mem_of_getElem? (i := 7) (by decide +kernel), by decide +kernel⟩
theorem ws_8 : Cond.selects "EditorCore" ⟨"EditorCore", "lineKillEnd", "()I"⟩ ⟨"EditorCore", "lineKillEnd", "()I"⟩ ∈ lw_t2 := List.mem_filter.mpr ⟨List.mem_of_getElem? (i := 8) (by decide +kernel), by decide +kernel⟩
theorem ws_9 : Cond.selects "EditorCore" ⟨"EditorCore", "kill", "(IIZ)I"⟩ ⟨"EditorCore", "kill", "(IIZ)I"⟩ ∈ lw_t2 := List.mem_filter.mpr ⟨List.mem_of_getElem? (i := 9) (by decide +kernel), by decide +kernel⟩
theorem ws_10 : Cond.selects "EditorCore$Kills" ⟨"EditorCore$Kills", "makeNewest", "()V"⟩ ⟨"EditorCore$Kills", "makeNewest", "()V"⟩ ∈ lw_t2 := List.mem_filter.mpr ⟨List.mem_of_getElem? (i := 10) (by decide +kernel), by decide +kernel⟩
theorem ws_11 : Cond.selects "EditorCore" ⟨"EditorCore", "regionBeginning", "()I"⟩ ⟨"EditorCore", "regionBeginning", "()I"⟩ ∈ lw_t2 := List.mem_filter.mpr ⟨List.mem_of_getElem? (i := 11) (by decide +kernel), by decide +kernel⟩
theorem ws_12 : Cond.selects "EditorCore" ⟨"EditorCore", "regionEnd", "()I"⟩ ⟨"EditorCore", "regionEnd", "()I"⟩ ∈ lw_t2 := List.mem_filter.mpr ⟨List.mem_of_getElem? (i := 12) (by decide +kernel), by decide +kernel⟩
theorem ws_13 : Cond.selects "EditorCore" ⟨"EditorCore", "copy", "(II)I"⟩ ⟨"EditorCore", "copy", "(II)I"⟩ ∈ lw_t2 := List.mem_filter.mpr ⟨List.mem_of_getElem? (i := 13) (by decide +kernel), by decide +kernel⟩
theorem ws_14 : Cond.selects "EditorCore" ⟨"EditorCore", "putKill", "(III)I"⟩ ⟨"EditorCore", "putKill", "(III)I"⟩ ∈ lw_t2 := List.mem_filter.mpr ⟨List.mem_of_getElem? (i := 14) (by decide +kernel), by decide +kernel⟩
theorem ws_15 : Cond.selects "EditorCore" ⟨"EditorCore", "setMark", "(I)I"⟩ ⟨"EditorCore", "setMark", "(I)I"⟩ ∈ lw_t2 := List.mem_filter.mpr ⟨List.mem_of_getElem? (i := 15) (by decide +kernel), by decide +kernel⟩
theorem ws_16 : Cond.selects "EditorCore" ⟨"EditorCore", "putOlderKill", "()I"⟩ ⟨"EditorCore", "putOlderKill", "()I"⟩ ∈ lw_t2 := List.mem_filter.mpr ⟨List.mem_of_getElem? (i := 16) (by decide +kernel), by decide +kernel⟩
theorem ws_17 : Cond.selects "EditorCore" ⟨"EditorCore", "swapMark", "()I"⟩ ⟨"EditorCore", "swapMark", "()I"⟩ ∈ lw_t2 := List.mem_filter.mpr ⟨List.mem_of_getElem? (i := 17) (by decide +kernel), by decide +kernel⟩
theorem ws_18 : Cond.selects "EditorCore" ⟨"EditorCore", "swapCharacters", "()I"⟩ ⟨"EditorCore", "swapCharacters", "()I"⟩ ∈ lw_t2 := List.mem_filter.mpr ⟨List.mem_of_getElem? (i := 18) (by decide +kernel), by decide +kernel⟩
theorem ws_19 : Cond.selects "EditorCore" ⟨"EditorCore", "undo", "()I"⟩ ⟨"EditorCore", "undo", "()I"⟩ ∈ lw_t2 := List.mem_filter.mpr ⟨List.mem_of_getElem? (i := 19) (by decide +kernel), by decide +kernel⟩
theorem ws_20 : Cond.selects "EditorCore" ⟨"EditorCore", "search", "()I"⟩ ⟨"EditorCore", "search", "()I"⟩ ∈ lw_t2 := List.mem_filter.mpr ⟨List.mem_of_getElem? (i := 20) (by decide +kernel), by decide +kernel⟩
theorem ws_21 : Cond.selects "EditorCore$Keys" ⟨"EditorCore$Keys", "drop", "(II)V"⟩ ⟨"EditorCore$Keys", "drop", "(II)V"⟩ ∈ lw_t2 := List.mem_filter.mpr ⟨List.mem_of_getElem? (i := 21) (by decide +kernel), by decide +kernel⟩
theorem ws_22 : Cond.selects "EditorCoreModel" ⟨"EditorCoreModel", "size", "(I)I"⟩ ⟨"EditorCoreModel", "size", "(I)I"⟩ ∈ lw_t2 := List.mem_filter.mpr ⟨List.mem_of_getElem? (i := 22) (by decide +kernel), by decide +kernel⟩
theorem ws_23 : Cond.selects "EditorCoreModel" ⟨"EditorCoreModel", "begins", "(IIIII)Z"⟩ ⟨"EditorCoreModel", "begins", "(IIIII)Z"⟩ ∈ lw_t2 := List.mem_filter.mpr ⟨List.mem_of_getElem? (i := 23) (by decide +kernel), by decide +kernel⟩
theorem ws_24 : Cond.selects "EditorCoreModel" ⟨"EditorCoreModel", "dropBinding", "(I)V"⟩ ⟨"EditorCoreModel", "dropBinding", "(I)V"⟩ ∈ lw_t2 := List.mem_filter.mpr ⟨List.mem_of_getElem? (i := 24) (by decide +kernel), by decide +kernel⟩
theorem ws_25 : Cond.selects "EditorCoreModel" ⟨"EditorCoreModel", "insert", "(I)I"⟩ ⟨"EditorCoreModel", "insert", "(I)I"⟩ ∈ lw_t2 := List.mem_filter.mpr ⟨List.mem_of_getElem? (i := 25) (by decide +kernel), by decide +kernel⟩
theorem ws_26 : Cond.selects "EditorCoreModel" ⟨"EditorCoreModel", "edit", "(II)V"⟩ ⟨"EditorCoreModel", "edit", "(II)V"⟩ ∈ lw_t2 := List.mem_filter.mpr ⟨List.mem_of_getElem? (i := 26) (by decide +kernel), by decide +kernel⟩
theorem ws_27 : Cond.selects "EditorCoreModel" ⟨"EditorCoreModel", "step", "(II)V"⟩ ⟨"EditorCoreModel", "step", "(II)V"⟩ ∈ lw_t2 := List.mem_filter.mpr ⟨List.mem_of_getElem? (i := 27) (by decide +kernel), by decide +kernel⟩
theorem ws_28 : Cond.selects "EditorCoreModel" ⟨"EditorCoreModel", "done", "(I)I"⟩ ⟨"EditorCoreModel", "done", "(I)I"⟩ ∈ lw_t2 := List.mem_filter.mpr ⟨List.mem_of_getElem? (i := 28) (by decide +kernel), by decide +kernel⟩
theorem ws_29 : Cond.selects "EditorCoreModel" ⟨"EditorCoreModel", "jot", "(I)V"⟩ ⟨"EditorCoreModel", "jot", "(I)V"⟩ ∈ lw_t2 := List.mem_filter.mpr ⟨List.mem_of_getElem? (i := 29) (by decide +kernel), by decide +kernel⟩
theorem ws_30 : Cond.selects "EditorCoreModel" ⟨"EditorCoreModel", "play", "()I"⟩ ⟨"EditorCoreModel", "play", "()I"⟩ ∈ lw_t2 := List.mem_filter.mpr ⟨List.mem_of_getElem? (i := 30) (by decide +kernel), by decide +kernel⟩
theorem ws_31 : Cond.selects "EditorCoreModel" ⟨"EditorCoreModel", "resolve", "(I)I"⟩ ⟨"EditorCoreModel", "resolve", "(I)I"⟩ ∈ lw_t2 := List.mem_filter.mpr ⟨List.mem_of_getElem? (i := 31) (by decide +kernel), by decide +kernel⟩
theorem ws_32 : Cond.selects "EditorCoreModel" ⟨"EditorCoreModel", "perform", "(I)I"⟩ ⟨"EditorCoreModel", "perform", "(I)I"⟩ ∈ lw_t2 := List.mem_filter.mpr ⟨List.mem_of_getElem? (i := 32) (by decide +kernel), by decide +kernel⟩
theorem ws_33 : Cond.selects "EditorCoreModel" ⟨"EditorCoreModel", "work", "(I)I"⟩ ⟨"EditorCoreModel", "work", "(I)I"⟩ ∈ lw_t2 := List.mem_filter.mpr ⟨List.mem_of_getElem? (i := 33) (by decide +kernel), by decide +kernel⟩
theorem ws_34 : Cond.selects "EditorCoreModel" ⟨"EditorCoreModel", "erase", "(II)I"⟩ ⟨"EditorCoreModel", "erase", "(II)I"⟩ ∈ lw_t2 := List.mem_filter.mpr ⟨List.mem_of_getElem? (i := 34) (by decide +kernel), by decide +kernel⟩
theorem ws_35 : Cond.selects "EditorCoreModel" ⟨"EditorCoreModel", "killLine", "()I"⟩ ⟨"EditorCoreModel", "killLine", "()I"⟩ ∈ lw_t2 := List.mem_filter.mpr ⟨List.mem_of_getElem? (i := 35) (by decide +kernel), by decide +kernel⟩
theorem ws_36 : Cond.selects "EditorCoreModel" ⟨"EditorCoreModel", "lineEnd", "(I)I"⟩ ⟨"EditorCoreModel", "lineEnd", "(I)I"⟩ ∈ lw_t2 := List.mem_filter.mpr ⟨List.mem_of_getElem? (i := 36) (by decide +kernel), by decide +kernel⟩
theorem ws_37 : Cond.selects "EditorCoreModel" ⟨"EditorCoreModel", "keep", "(IIZ)V"⟩ ⟨"EditorCoreModel", "keep", "(IIZ)V"⟩ ∈ lw_t2 := List.mem_filter.mpr ⟨List.mem_of_getElem? (i := 37) (by decide +kernel), by decide +kernel⟩
theorem ws_38 : Cond.selects "EditorCoreModel" ⟨"EditorCoreModel", "killRegion", "(Z)I"⟩ ⟨"EditorCoreModel", "killRegion", "(Z)I"⟩ ∈ lw_t2 := List.mem_filter.mpr ⟨List.mem_of_getElem? (i := 38) (by decide +kernel), by decide +kernel⟩
theorem ws_39 : Cond.selects "EditorCoreModel" ⟨"EditorCoreModel", "yank", "(III)I"⟩ ⟨"EditorCoreModel", "yank", "(III)I"⟩ ∈ lw_t2 := List.mem_filter.mpr ⟨List.mem_of_getElem? (i := 39) (by decide +kernel), by decide +kernel⟩
theorem ws_40 : Cond.selects "EditorCoreModel" ⟨"EditorCoreModel", "exchange", "()I"⟩ ⟨"EditorCoreModel", "exchange", "()I"⟩ ∈ lw_t2 := List.mem_filter.mpr ⟨List.mem_of_getElem? (i := 40) (by decide +kernel), by decide +kernel⟩
theorem ws_41 : Cond.selects "EditorCoreModel" ⟨"EditorCoreModel", "swap", "()I"⟩ ⟨"EditorCoreModel", "swap", "()I"⟩ ∈ lw_t2 := List.mem_filter.mpr ⟨List.mem_of_getElem? (i := 41) (by decide +kernel), by decide +kernel⟩
theorem ws_42 : Cond.selects "EditorCoreModel" ⟨"EditorCoreModel", "undo", "()I"⟩ ⟨"EditorCoreModel", "undo", "()I"⟩ ∈ lw_t2 := List.mem_filter.mpr ⟨List.mem_of_getElem? (i := 42) (by decide +kernel), by decide +kernel⟩
theorem ws_43 : Cond.selects "EditorCoreModel" ⟨"EditorCoreModel", "search", "()I"⟩ ⟨"EditorCoreModel", "search", "()I"⟩ ∈ lw_t2 := List.mem_filter.mpr ⟨List.mem_of_getElem? (i := 43) (by decide +kernel), by decide +kernel⟩
theorem ws_44 : Cond.selects "EditorCoreModel" ⟨"EditorCoreModel", "move", "(I)I"⟩ ⟨"EditorCoreModel", "move", "(I)I"⟩ ∈ lw_t2 := List.mem_filter.mpr ⟨List.mem_of_getElem? (i := 44) (by decide +kernel), by decide +kernel⟩
theorem ws_45 : Cond.selects "EditorCoreModel" ⟨"EditorCoreModel", "vertical", "(I)V"⟩ ⟨"EditorCoreModel", "vertical", "(I)V"⟩ ∈ lw_t2 := List.mem_filter.mpr ⟨List.mem_of_getElem? (i := 45) (by decide +kernel), by decide +kernel⟩
theorem ws_46 : Cond.selects "EditorCoreModel" ⟨"EditorCoreModel", "lineStart", "(I)I"⟩ ⟨"EditorCoreModel", "lineStart", "(I)I"⟩ ∈ lw_t2 := List.mem_filter.mpr ⟨List.mem_of_getElem? (i := 46) (by decide +kernel), by decide +kernel⟩
theorem ws_47 : Cond.selects "EditorCoreModel" ⟨"EditorCoreModel", "words", "(Z)V"⟩ ⟨"EditorCoreModel", "words", "(Z)V"⟩ ∈ lw_t2 := List.mem_filter.mpr ⟨List.mem_of_getElem? (i := 47) (by decide +kernel), by decide +kernel⟩
theorem ws_48 : Cond.selects "EditorCoreModel" ⟨"EditorCoreModel", "show", "()V"⟩ ⟨"EditorCoreModel", "show", "()V"⟩ ∈ lw_t2 := List.mem_filter.mpr ⟨List.mem_of_getElem? (i := 48) (by decide +kernel), by decide +kernel⟩
theorem ws_49 : Cond.selects "EditorCoreModel" ⟨"EditorCoreModel", "pointRow", "()I"⟩ ⟨"EditorCoreModel", "pointRow", "()I"⟩ ∈ lw_t2 := List.mem_filter.mpr ⟨List.mem_of_getElem? (i := 49) (by decide +kernel), by decide +kernel⟩
theorem ws_50 : Cond.selects "EditorCoreModel" ⟨"EditorCoreModel", "rowsBefore", "(I)I"⟩ ⟨"EditorCoreModel", "rowsBefore", "(I)I"⟩ ∈ lw_t2 := List.mem_filter.mpr ⟨List.mem_of_getElem? (i := 50) (by decide +kernel), by decide +kernel⟩
theorem tU_E : ∀ w ∈ u_ws "EditorCore" tT_E 12, w ∈ lw_t2 := List.forall_mem_cons.mpr ⟨wd_186, List.forall_mem_cons.mpr ⟨wd_188, List.forall_mem_cons.mpr ⟨wd_190, List.forall_mem_cons.mpr ⟨wd_192, List.forall_mem_cons.mpr ⟨wd_194, List.forall_mem_cons.mpr ⟨wd_196, List.forall_mem_cons.mpr ⟨wd_198, List.forall_mem_cons.mpr ⟨wd_200, List.forall_mem_cons.mpr ⟨wd_202, List.forall_mem_cons.mpr ⟨wd_204, List.forall_mem_cons.mpr ⟨wd_206, List.forall_mem_cons.mpr ⟨wd_208, fun _ h => absurd h List.not_mem_nil⟩⟩⟩⟩⟩⟩⟩⟩⟩⟩⟩⟩
theorem tU_T : ∀ w ∈ u_ws "EditorCore$Text" tT_T 4, w ∈ lw_t2 := List.forall_mem_cons.mpr ⟨wd_57, List.forall_mem_cons.mpr ⟨wd_59, List.forall_mem_cons.mpr ⟨wd_61, List.forall_mem_cons.mpr ⟨wd_63, fun _ h => absurd h List.not_mem_nil⟩⟩⟩⟩
theorem tU_L : ∀ w ∈ u_ws "EditorCore$Letters" tT_L 2, w ∈ lw_t2 := List.forall_mem_cons.mpr ⟨wd_41, List.forall_mem_cons.mpr ⟨wd_43, fun _ h => absurd h List.not_mem_nil⟩⟩
theorem tU_K : ∀ w ∈ u_ws "EditorCore$Kills" tT_K 2, w ∈ lw_t2 := List.forall_mem_cons.mpr ⟨wd_80, List.forall_mem_cons.mpr ⟨wd_82, fun _ h => absurd h List.not_mem_nil⟩⟩
theorem tU_H : ∀ w ∈ u_ws "EditorCore$History" tT_H 4, w ∈ lw_t2 := List.forall_mem_cons.mpr ⟨wd_101, List.forall_mem_cons.mpr ⟨wd_103, List.forall_mem_cons.mpr ⟨wd_105, List.forall_mem_cons.mpr ⟨wd_107, fun _ h => absurd h List.not_mem_nil⟩⟩⟩⟩
theorem tU_Y : ∀ w ∈ u_ws "EditorCore$Keys" tT_Y 4, w ∈ lw_t2 := List.forall_mem_cons.mpr ⟨wd_121, List.forall_mem_cons.mpr ⟨wd_123, List.forall_mem_cons.mpr ⟨wd_125, List.forall_mem_cons.mpr ⟨wd_127, fun _ h => absurd h List.not_mem_nil⟩⟩⟩⟩
theorem tU_V : ∀ w ∈ u_ws "EditorCore$Events" tT_V 4, w ∈ lw_t2 := List.forall_mem_cons.mpr ⟨wd_144, List.forall_mem_cons.mpr ⟨wd_146, List.forall_mem_cons.mpr ⟨wd_148, List.forall_mem_cons.mpr ⟨wd_150, fun _ h => absurd h List.not_mem_nil⟩⟩⟩⟩
theorem tU_N : ∀ w ∈ u_ws "EditorCore$Window" tT_N 3, w ∈ lw_t2 := List.forall_mem_cons.mpr ⟨wd_165, List.forall_mem_cons.mpr ⟨wd_167, List.forall_mem_cons.mpr ⟨wd_169, fun _ h => absurd h List.not_mem_nil⟩⟩⟩
theorem tU_R : ∀ w ∈ u_ws "EditorCoreModel" tT_R 36, w ∈ lw_t2 := List.forall_mem_cons.mpr ⟨wd_538, List.forall_mem_cons.mpr ⟨wd_540, List.forall_mem_cons.mpr ⟨wd_542, List.forall_mem_cons.mpr ⟨wd_544, List.forall_mem_cons.mpr ⟨wd_546, List.forall_mem_cons.mpr ⟨wd_548, List.forall_mem_cons.mpr ⟨wd_550, List.forall_mem_cons.mpr ⟨wd_552, List.forall_mem_cons.mpr ⟨wd_554, List.forall_mem_cons.mpr ⟨wd_556, List.forall_mem_cons.mpr ⟨wd_558, List.forall_mem_cons.mpr ⟨wd_560, List.forall_mem_cons.mpr ⟨wd_562, List.forall_mem_cons.mpr ⟨wd_564, List.forall_mem_cons.mpr ⟨wd_566, List.forall_mem_cons.mpr ⟨wd_568, List.forall_mem_cons.mpr ⟨wd_570, List.forall_mem_cons.mpr ⟨wd_572, List.forall_mem_cons.mpr ⟨wd_574, List.forall_mem_cons.mpr ⟨wd_576, List.forall_mem_cons.mpr ⟨wd_578, List.forall_mem_cons.mpr ⟨wd_580, List.forall_mem_cons.mpr ⟨wd_582, List.forall_mem_cons.mpr ⟨wd_584, List.forall_mem_cons.mpr ⟨wd_586, List.forall_mem_cons.mpr ⟨wd_588, List.forall_mem_cons.mpr ⟨wd_590, List.forall_mem_cons.mpr ⟨wd_592, List.forall_mem_cons.mpr ⟨wd_594, List.forall_mem_cons.mpr ⟨wd_596, List.forall_mem_cons.mpr ⟨wd_598, List.forall_mem_cons.mpr ⟨wd_600, List.forall_mem_cons.mpr ⟨wd_602, List.forall_mem_cons.mpr ⟨wd_604, List.forall_mem_cons.mpr ⟨wd_606, List.forall_mem_cons.mpr ⟨wd_608, fun _ h => absurd h List.not_mem_nil⟩⟩⟩⟩⟩⟩⟩⟩⟩⟩⟩⟩⟩⟩⟩⟩⟩⟩⟩⟩⟩⟩⟩⟩⟩⟩⟩⟩⟩⟩⟩⟩⟩⟩⟩⟩
theorem mm_clOK : ∀ (ci : Nat) (C : String) (T : u_T) (N : Nat), mm_cl[ci]? = some (C, T, N) → (∀ k, k < N → parseFieldDescriptor (T k).2.2.1 = some (mm_fd ci k)) ∧ (∀ a, a < N → ∀ b, b < N → a ≠ b → (T a).2.1 ≠ (T b).2.1) ∧ (∀ k, k < N → mm_ff ci k = (T k).2.2.2 ∧ mm_fo ci k = (T k).1 ∧ defaultValue (mm_fd ci k) = if mm_fr ci k = true then .null else .int 0) ∧ ∀ w ∈ u_ws C T N, w ∈ lw_t2
  | 0, _, _, _, h => by cases h; exact ⟨by decide +kernel, by decide +kernel, by decide +kernel, tU_E⟩
  | 1, _, _, _, h => by cases h; exact ⟨by decide +kernel, by decide +kernel, by decide +kernel, tU_T⟩
  | 2, _, _, _, h => by cases h; exact ⟨by decide +kernel, by decide +kernel, by decide +kernel, tU_L⟩
  | 3, _, _, _, h => by cases h; exact ⟨by decide +kernel, by decide +kernel, by decide +kernel, tU_K⟩
  | 4, _, _, _, h => by cases h; exact ⟨by decide +kernel, by decide +kernel, by decide +kernel, tU_H⟩
  | 5, _, _, _, h => by cases h; exact ⟨by decide +kernel, by decide +kernel, by decide +kernel, tU_Y⟩
  | 6, _, _, _, h => by cases h; exact ⟨by decide +kernel, by decide +kernel, by decide +kernel, tU_V⟩
  | 7, _, _, _, h => by cases h; exact ⟨by decide +kernel, by decide +kernel, by decide +kernel, tU_N⟩
  | 8, _, _, _, h => by cases h; exact ⟨by decide +kernel, by decide +kernel, by decide +kernel, tU_R⟩
  | n + 9, _, _, _, h => by simp [mm_cl] at h
end
section
def mm_cd : List (Nat × Instr × Nat) → Nat → Option (Instr × Nat)
  | [], _ => none
  | q :: t, pc => match Nat.beq q.1 pc with
    | true => some q.2
    | false => mm_cd t pc
theorem mm_cd_in : ∀ (t : List (Nat × Instr × Nat)) (pc : Nat) (x : Instr × Nat), mm_cd t pc = some x → (pc, x) ∈ t
  | [], _, _, h => by cases h
  | q :: t, pc, x, h => by
    unfold mm_cd at h
    split at h
    · rename_i hb
      cases h
      have := Nat.eq_of_beq_eq_true hb
      subst this
      exact List.mem_cons_self
    · exact List.mem_cons_of_mem _ (mm_cd_in t pc x h)
theorem mm_cd_ok {b : ByteArray} (t : List (Nat × Instr × Nat)) (h : ∀ q ∈ t, decode b q.1 = .ok q.2) : ∀ pc i n, mm_cd t pc = some (i, n) → decode b pc = .ok (i, n) := fun pc i n hq => h (pc, i, n) (mm_cd_in t pc (i, n) hq)
def mm_fl : List (Nat × Nat × Nat) → Nat → Option (Nat × Nat)
  | [], _ => none
  | q :: t, pc => match Nat.beq q.1 pc with
    | true => some q.2
    | false => mm_fl t pc
theorem mm_fl_in : ∀ (t : List (Nat × Nat × Nat)) (pc : Nat) (x : Nat × Nat), mm_fl t pc = some x → (pc, x) ∈ t
  | [], _, _, h => by cases h
  | q :: t, pc, x, h => by
    unfold mm_fl at h
    split at h
    · rename_i hb
      cases h
      have := Nat.eq_of_beq_eq_true hb
      subst this
      exact List.mem_cons_self
    · exact List.mem_cons_of_mem _ (mm_fl_in t pc x h)
def mm_FL (own : String) (q : Nat × Nat × Nat) : Prop := ∃ C T N, mm_cl[q.2.1]? = some (C, T, N) ∧ q.2.2 < N ∧ Cond.fieldLink own q.1 (T q.2.2).1 (T q.2.2).2.1 (T q.2.2).2.2.1 ∈ lw_t2
theorem mm_fl_ok {own : String} (t : List (Nat × Nat × Nat)) (h : ∀ q ∈ t, mm_FL own q) : ∀ idx ci k, mm_fl t idx = some (ci, k) → ∃ C T N, mm_cl[ci]? = some (C, T, N) ∧ k < N ∧ Cond.fieldLink own idx (T k).1 (T k).2.1 (T k).2.2.1 ∈ lw_t2 := fun idx ci k hq => h (idx, ci, k) (mm_fl_in t idx (ci, k) hq)
def fl_L : List (Nat × Nat × Nat) := [(9, 2, 0), (15, 2, 1)]
theorem fl_L_ok : ∀ q ∈ fl_L, mm_FL "EditorCore$Letters" q := List.forall_mem_cons.mpr ⟨⟨"EditorCore$Letters", tT_L, 2, rfl, Nat.le_of_ble_eq_true rfl, wd_32⟩, List.forall_mem_cons.mpr ⟨⟨"EditorCore$Letters", tT_L, 2, rfl, Nat.le_of_ble_eq_true rfl, wd_36⟩, fun _ h => absurd h List.not_mem_nil⟩⟩
def fl_T : List (Nat × Nat × Nat) := [(12, 1, 0), (18, 1, 1), (22, 1, 2), (26, 2, 1), (30, 2, 0)]
theorem fl_T_ok : ∀ q ∈ fl_T, mm_FL "EditorCore$Text" q := List.forall_mem_cons.mpr ⟨⟨"EditorCore$Text", tT_T, 4, rfl, Nat.le_of_ble_eq_true rfl, wd_47⟩, List.forall_mem_cons.mpr ⟨⟨"EditorCore$Text", tT_T, 4, rfl, Nat.le_of_ble_eq_true rfl, wd_51⟩, List.forall_mem_cons.mpr ⟨⟨"EditorCore$Text", tT_T, 4, rfl, Nat.le_of_ble_eq_true rfl, wd_53⟩, List.forall_mem_cons.mpr ⟨⟨"EditorCore$Letters", tT_L, 2, rfl, Nat.le_of_ble_eq_true rfl, wd_37⟩, List.forall_mem_cons.mpr ⟨⟨"EditorCore$Letters", tT_L, 2, rfl, Nat.le_of_ble_eq_true rfl, wd_33⟩, fun _ h => absurd h List.not_mem_nil⟩⟩⟩⟩⟩
def fl_N : List (Nat × Nat × Nat) := [(9, 7, 0), (15, 7, 1), (18, 7, 2), (21, 2, 1), (26, 2, 0), (30, 1, 0), (36, 1, 3)]
theorem fl_N_ok : ∀ q ∈ fl_N, mm_FL "EditorCore$Window" q := List.forall_mem_cons.mpr ⟨⟨"EditorCore$Window", tT_N, 3, rfl, Nat.le_of_ble_eq_true rfl, wd_159⟩, List.forall_mem_cons.mpr ⟨⟨"EditorCore$Window", tT_N, 3, rfl, Nat.le_of_ble_eq_true rfl, wd_161⟩, List.forall_mem_cons.mpr ⟨⟨"EditorCore$Window", tT_N, 3, rfl, Nat.le_of_ble_eq_true rfl, wd_163⟩, List.forall_mem_cons.mpr ⟨⟨"EditorCore$Letters", tT_L, 2, rfl, Nat.le_of_ble_eq_true rfl, wd_38⟩, List.forall_mem_cons.mpr ⟨⟨"EditorCore$Letters", tT_L, 2, rfl, Nat.le_of_ble_eq_true rfl, wd_34⟩, List.forall_mem_cons.mpr ⟨⟨"EditorCore$Text", tT_T, 4, rfl, Nat.le_of_ble_eq_true rfl, wd_48⟩, List.forall_mem_cons.mpr ⟨⟨"EditorCore$Text", tT_T, 4, rfl, Nat.le_of_ble_eq_true rfl, wd_55⟩, fun _ h => absurd h List.not_mem_nil⟩⟩⟩⟩⟩⟩⟩
def fl_E : List (Nat × Nat × Nat) := [(10, 0, 0), (19, 0, 1), (26, 0, 2), (33, 0, 3), (40, 0, 4), (47, 0, 5), (54, 0, 6), (58, 0, 7), (62, 0, 8), (101, 6, 3), (105, 6, 2), (108, 1, 1), (112, 1, 3), (115, 1, 2), (122, 1, 0), (125, 2, 1), (126, 2, 0), (129, 3, 1), (132, 3, 0), (136, 7, 1), (138, 7, 0), (145, 7, 2), (152, 4, 3), (158, 5, 2), (180, 6, 0), (181, 6, 1), (259, 0, 9), (266, 0, 10), (269, 0, 11), (278, 4, 0), (281, 4, 2), (288, 4, 1)]
theorem fl_E_ok : ∀ q ∈ fl_E, mm_FL "EditorCore" q := List.forall_mem_cons.mpr ⟨⟨"EditorCore", tT_E, 12, rfl, Nat.le_of_ble_eq_true rfl, wd_174⟩, List.forall_mem_cons.mpr ⟨⟨"EditorCore", tT_E, 12, rfl, Nat.le_of_ble_eq_true rfl, wd_175⟩, List.forall_mem_cons.mpr ⟨⟨"EditorCore", tT_E, 12, rfl, Nat.le_of_ble_eq_true rfl, wd_176⟩, List.forall_mem_cons.mpr ⟨⟨"EditorCore", tT_E, 12, rfl, Nat.le_of_ble_eq_true rfl, wd_177⟩, List.forall_mem_cons.mpr ⟨⟨"EditorCore", tT_E, 12, rfl, Nat.le_of_ble_eq_true rfl, wd_178⟩, List.forall_mem_cons.mpr ⟨⟨"EditorCore", tT_E, 12, rfl, Nat.le_of_ble_eq_true rfl, wd_179⟩, List.forall_mem_cons.mpr ⟨⟨"EditorCore", tT_E, 12, rfl, Nat.le_of_ble_eq_true rfl, wd_180⟩, List.forall_mem_cons.mpr ⟨⟨"EditorCore", tT_E, 12, rfl, Nat.le_of_ble_eq_true rfl, wd_181⟩, List.forall_mem_cons.mpr ⟨⟨"EditorCore", tT_E, 12, rfl, Nat.le_of_ble_eq_true rfl, wd_182⟩, List.forall_mem_cons.mpr ⟨⟨"EditorCore$Events", tT_V, 4, rfl, Nat.le_of_ble_eq_true rfl, wd_143⟩, List.forall_mem_cons.mpr ⟨⟨"EditorCore$Events", tT_V, 4, rfl, Nat.le_of_ble_eq_true rfl, wd_141⟩, List.forall_mem_cons.mpr ⟨⟨"EditorCore$Text", tT_T, 4, rfl, Nat.le_of_ble_eq_true rfl, wd_52⟩, List.forall_mem_cons.mpr ⟨⟨"EditorCore$Text", tT_T, 4, rfl, Nat.le_of_ble_eq_true rfl, wd_56⟩, List.forall_mem_cons.mpr ⟨⟨"EditorCore$Text", tT_T, 4, rfl, Nat.le_of_ble_eq_true rfl, wd_54⟩, List.forall_mem_cons.mpr ⟨⟨"EditorCore$Text", tT_T, 4, rfl, Nat.le_of_ble_eq_true rfl, wd_50⟩, List.forall_mem_cons.mpr ⟨⟨"EditorCore$Letters", tT_L, 2, rfl, Nat.le_of_ble_eq_true rfl, wd_40⟩, List.forall_mem_cons.mpr ⟨⟨"EditorCore$Letters", tT_L, 2, rfl, Nat.le_of_ble_eq_true rfl, wd_35⟩, List.forall_mem_cons.mpr ⟨⟨"EditorCore$Kills", tT_K, 2, rfl, Nat.le_of_ble_eq_true rfl, wd_79⟩, List.forall_mem_cons.mpr ⟨⟨"EditorCore$Kills", tT_K, 2, rfl, Nat.le_of_ble_eq_true rfl, wd_77⟩, List.forall_mem_cons.mpr ⟨⟨"EditorCore$Window", tT_N, 3, rfl, Nat.le_of_ble_eq_true rfl, wd_162⟩, List.forall_mem_cons.mpr ⟨⟨"EditorCore$Window", tT_N, 3, rfl, Nat.le_of_ble_eq_true rfl, wd_160⟩, List.forall_mem_cons.mpr ⟨⟨"EditorCore$Window", tT_N, 3, rfl, Nat.le_of_ble_eq_true rfl, wd_164⟩, List.forall_mem_cons.mpr ⟨⟨"EditorCore$History", tT_H, 4, rfl, Nat.le_of_ble_eq_true rfl, wd_100⟩, List.forall_mem_cons.mpr ⟨⟨"EditorCore$Keys", tT_Y, 4, rfl, Nat.le_of_ble_eq_true rfl, wd_119⟩, List.forall_mem_cons.mpr ⟨⟨"EditorCore$Events", tT_V, 4, rfl, Nat.le_of_ble_eq_true rfl, wd_137⟩, List.forall_mem_cons.mpr ⟨⟨"EditorCore$Events", tT_V, 4, rfl, Nat.le_of_ble_eq_true rfl, wd_139⟩, List.forall_mem_cons.mpr ⟨⟨"EditorCore", tT_E, 12, rfl, Nat.le_of_ble_eq_true rfl, wd_183⟩, List.forall_mem_cons.mpr ⟨⟨"EditorCore", tT_E, 12, rfl, Nat.le_of_ble_eq_true rfl, wd_184⟩, List.forall_mem_cons.mpr ⟨⟨"EditorCore", tT_E, 12, rfl, Nat.le_of_ble_eq_true rfl, wd_185⟩, List.forall_mem_cons.mpr ⟨⟨"EditorCore$History", tT_H, 4, rfl, Nat.le_of_ble_eq_true rfl, wd_94⟩, List.forall_mem_cons.mpr ⟨⟨"EditorCore$History", tT_H, 4, rfl, Nat.le_of_ble_eq_true rfl, wd_98⟩, List.forall_mem_cons.mpr ⟨⟨"EditorCore$History", tT_H, 4, rfl, Nat.le_of_ble_eq_true rfl, wd_96⟩, fun _ h => absurd h List.not_mem_nil⟩⟩⟩⟩⟩⟩⟩⟩⟩⟩⟩⟩⟩⟩⟩⟩⟩⟩⟩⟩⟩⟩⟩⟩⟩⟩⟩⟩⟩⟩⟩⟩
def fl_H : List (Nat × Nat × Nat) := [(11, 4, 0), (15, 4, 1), (20, 4, 2), (31, 4, 3), (45, 2, 1), (51, 1, 0)]
theorem fl_H_ok : ∀ q ∈ fl_H, mm_FL "EditorCore$History" q := List.forall_mem_cons.mpr ⟨⟨"EditorCore$History", tT_H, 4, rfl, Nat.le_of_ble_eq_true rfl, wd_93⟩, List.forall_mem_cons.mpr ⟨⟨"EditorCore$History", tT_H, 4, rfl, Nat.le_of_ble_eq_true rfl, wd_95⟩, List.forall_mem_cons.mpr ⟨⟨"EditorCore$History", tT_H, 4, rfl, Nat.le_of_ble_eq_true rfl, wd_97⟩, List.forall_mem_cons.mpr ⟨⟨"EditorCore$History", tT_H, 4, rfl, Nat.le_of_ble_eq_true rfl, wd_99⟩, List.forall_mem_cons.mpr ⟨⟨"EditorCore$Letters", tT_L, 2, rfl, Nat.le_of_ble_eq_true rfl, wd_39⟩, List.forall_mem_cons.mpr ⟨⟨"EditorCore$Text", tT_T, 4, rfl, Nat.le_of_ble_eq_true rfl, wd_49⟩, fun _ h => absurd h List.not_mem_nil⟩⟩⟩⟩⟩⟩
def fl_K : List (Nat × Nat × Nat) := [(11, 3, 0), (26, 3, 1)]
theorem fl_K_ok : ∀ q ∈ fl_K, mm_FL "EditorCore$Kills" q := List.forall_mem_cons.mpr ⟨⟨"EditorCore$Kills", tT_K, 2, rfl, Nat.le_of_ble_eq_true rfl, wd_76⟩, List.forall_mem_cons.mpr ⟨⟨"EditorCore$Kills", tT_K, 2, rfl, Nat.le_of_ble_eq_true rfl, wd_78⟩, fun _ h => absurd h List.not_mem_nil⟩⟩
def fl_Y : List (Nat × Nat × Nat) := [(11, 5, 0), (15, 5, 1), (22, 5, 3), (26, 5, 2)]
theorem fl_Y_ok : ∀ q ∈ fl_Y, mm_FL "EditorCore$Keys" q := List.forall_mem_cons.mpr ⟨⟨"EditorCore$Keys", tT_Y, 4, rfl, Nat.le_of_ble_eq_true rfl, wd_116⟩, List.forall_mem_cons.mpr ⟨⟨"EditorCore$Keys", tT_Y, 4, rfl, Nat.le_of_ble_eq_true rfl, wd_117⟩, List.forall_mem_cons.mpr ⟨⟨"EditorCore$Keys", tT_Y, 4, rfl, Nat.le_of_ble_eq_true rfl, wd_120⟩, List.forall_mem_cons.mpr ⟨⟨"EditorCore$Keys", tT_Y, 4, rfl, Nat.le_of_ble_eq_true rfl, wd_118⟩, fun _ h => absurd h List.not_mem_nil⟩⟩⟩⟩
def fl_V : List (Nat × Nat × Nat) := [(9, 6, 0), (13, 6, 1), (17, 6, 3), (21, 6, 2)]
theorem fl_V_ok : ∀ q ∈ fl_V, mm_FL "EditorCore$Events" q := List.forall_mem_cons.mpr ⟨⟨"EditorCore$Events", tT_V, 4, rfl, Nat.le_of_ble_eq_true rfl, wd_136⟩, List.forall_mem_cons.mpr ⟨⟨"EditorCore$Events", tT_V, 4, rfl, Nat.le_of_ble_eq_true rfl, wd_138⟩, List.forall_mem_cons.mpr ⟨⟨"EditorCore$Events", tT_V, 4, rfl, Nat.le_of_ble_eq_true rfl, wd_142⟩, List.forall_mem_cons.mpr ⟨⟨"EditorCore$Events", tT_V, 4, rfl, Nat.le_of_ble_eq_true rfl, wd_140⟩, fun _ h => absurd h List.not_mem_nil⟩⟩⟩⟩
def fl_R : List (Nat × Nat × Nat) := [(7, 8, 0), (13, 8, 1), (16, 8, 2), (19, 8, 6), (23, 8, 7), (26, 8, 8), (29, 8, 10), (32, 8, 11), (36, 8, 12), (39, 8, 13), (42, 8, 18), (45, 8, 19), (48, 8, 20), (51, 8, 21), (54, 8, 22), (57, 8, 25), (60, 8, 26), (63, 8, 28), (66, 8, 30), (69, 8, 33), (72, 8, 34), (75, 8, 3), (78, 8, 4), (85, 8, 23), (96, 8, 5), (109, 8, 9), (115, 8, 14), (126, 8, 15), (129, 8, 16), (132, 8, 17), (135, 8, 24), (176, 8, 27), (189, 8, 29), (192, 8, 32), (196, 8, 31), (214, 8, 35)]
theorem fl_R_ok : ∀ q ∈ fl_R, mm_FL "EditorCoreModel" q := List.forall_mem_cons.mpr ⟨⟨"EditorCoreModel", tT_R, 36, rfl, Nat.le_of_ble_eq_true rfl, wd_502⟩, List.forall_mem_cons.mpr ⟨⟨"EditorCoreModel", tT_R, 36, rfl, Nat.le_of_ble_eq_true rfl, wd_503⟩, List.forall_mem_cons.mpr ⟨⟨"EditorCoreModel", tT_R, 36, rfl, Nat.le_of_ble_eq_true rfl, wd_504⟩, List.forall_mem_cons.mpr ⟨⟨"EditorCoreModel", tT_R, 36, rfl, Nat.le_of_ble_eq_true rfl, wd_508⟩, List.forall_mem_cons.mpr ⟨⟨"EditorCoreModel", tT_R, 36, rfl, Nat.le_of_ble_eq_true rfl, wd_509⟩, List.forall_mem_cons.mpr ⟨⟨"EditorCoreModel", tT_R, 36, rfl, Nat.le_of_ble_eq_true rfl, wd_510⟩, List.forall_mem_cons.mpr ⟨⟨"EditorCoreModel", tT_R, 36, rfl, Nat.le_of_ble_eq_true rfl, wd_512⟩, List.forall_mem_cons.mpr ⟨⟨"EditorCoreModel", tT_R, 36, rfl, Nat.le_of_ble_eq_true rfl, wd_513⟩, List.forall_mem_cons.mpr ⟨⟨"EditorCoreModel", tT_R, 36, rfl, Nat.le_of_ble_eq_true rfl, wd_514⟩, List.forall_mem_cons.mpr ⟨⟨"EditorCoreModel", tT_R, 36, rfl, Nat.le_of_ble_eq_true rfl, wd_515⟩, List.forall_mem_cons.mpr ⟨⟨"EditorCoreModel", tT_R, 36, rfl, Nat.le_of_ble_eq_true rfl, wd_520⟩, List.forall_mem_cons.mpr ⟨⟨"EditorCoreModel", tT_R, 36, rfl, Nat.le_of_ble_eq_true rfl, wd_521⟩, List.forall_mem_cons.mpr ⟨⟨"EditorCoreModel", tT_R, 36, rfl, Nat.le_of_ble_eq_true rfl, wd_522⟩, List.forall_mem_cons.mpr ⟨⟨"EditorCoreModel", tT_R, 36, rfl, Nat.le_of_ble_eq_true rfl, wd_523⟩, List.forall_mem_cons.mpr ⟨⟨"EditorCoreModel", tT_R, 36, rfl, Nat.le_of_ble_eq_true rfl, wd_524⟩, List.forall_mem_cons.mpr ⟨⟨"EditorCoreModel", tT_R, 36, rfl, Nat.le_of_ble_eq_true rfl, wd_527⟩, List.forall_mem_cons.mpr ⟨⟨"EditorCoreModel", tT_R, 36, rfl, Nat.le_of_ble_eq_true rfl, wd_528⟩, List.forall_mem_cons.mpr ⟨⟨"EditorCoreModel", tT_R, 36, rfl, Nat.le_of_ble_eq_true rfl, wd_530⟩, List.forall_mem_cons.mpr ⟨⟨"EditorCoreModel", tT_R, 36, rfl, Nat.le_of_ble_eq_true rfl, wd_532⟩, List.forall_mem_cons.mpr ⟨⟨"EditorCoreModel", tT_R, 36, rfl, Nat.le_of_ble_eq_true rfl, wd_535⟩, List.forall_mem_cons.mpr ⟨⟨"EditorCoreModel", tT_R, 36, rfl, Nat.le_of_ble_eq_true rfl, wd_536⟩, List.forall_mem_cons.mpr ⟨⟨"EditorCoreModel", tT_R, 36, rfl, Nat.le_of_ble_eq_true rfl, wd_505⟩, List.forall_mem_cons.mpr ⟨⟨"EditorCoreModel", tT_R, 36, rfl, Nat.le_of_ble_eq_true rfl, wd_506⟩, List.forall_mem_cons.mpr ⟨⟨"EditorCoreModel", tT_R, 36, rfl, Nat.le_of_ble_eq_true rfl, wd_525⟩, List.forall_mem_cons.mpr ⟨⟨"EditorCoreModel", tT_R, 36, rfl, Nat.le_of_ble_eq_true rfl, wd_507⟩, List.forall_mem_cons.mpr ⟨⟨"EditorCoreModel", tT_R, 36, rfl, Nat.le_of_ble_eq_true rfl, wd_511⟩, List.forall_mem_cons.mpr ⟨⟨"EditorCoreModel", tT_R, 36, rfl, Nat.le_of_ble_eq_true rfl, wd_516⟩, List.forall_mem_cons.mpr ⟨⟨"EditorCoreModel", tT_R, 36, rfl, Nat.le_of_ble_eq_true rfl, wd_517⟩, List.forall_mem_cons.mpr ⟨⟨"EditorCoreModel", tT_R, 36, rfl, Nat.le_of_ble_eq_true rfl, wd_518⟩, List.forall_mem_cons.mpr ⟨⟨"EditorCoreModel", tT_R, 36, rfl, Nat.le_of_ble_eq_true rfl, wd_519⟩, List.forall_mem_cons.mpr ⟨⟨"EditorCoreModel", tT_R, 36, rfl, Nat.le_of_ble_eq_true rfl, wd_526⟩, List.forall_mem_cons.mpr ⟨⟨"EditorCoreModel", tT_R, 36, rfl, Nat.le_of_ble_eq_true rfl, wd_529⟩, List.forall_mem_cons.mpr ⟨⟨"EditorCoreModel", tT_R, 36, rfl, Nat.le_of_ble_eq_true rfl, wd_531⟩, List.forall_mem_cons.mpr ⟨⟨"EditorCoreModel", tT_R, 36, rfl, Nat.le_of_ble_eq_true rfl, wd_534⟩, List.forall_mem_cons.mpr ⟨⟨"EditorCoreModel", tT_R, 36, rfl, Nat.le_of_ble_eq_true rfl, wd_533⟩, List.forall_mem_cons.mpr ⟨⟨"EditorCoreModel", tT_R, 36, rfl, Nat.le_of_ble_eq_true rfl, wd_537⟩, fun _ h => absurd h List.not_mem_nil⟩⟩⟩⟩⟩⟩⟩⟩⟩⟩⟩⟩⟩⟩⟩⟩⟩⟩⟩⟩⟩⟩⟩⟩⟩⟩⟩⟩⟩⟩⟩⟩⟩⟩⟩⟩
def fl_J : List (Nat × Nat × Nat) := []
theorem fl_J_ok : ∀ q ∈ fl_J, mm_FL "java/lang/Math" q := fun _ h => absurd h List.not_mem_nil
def fl_S : List (Nat × Nat × Nat) := []
theorem fl_S_ok : ∀ q ∈ fl_S, mm_FL "java/lang/System" q := fun _ h => absurd h List.not_mem_nil
def fl_W : List (Nat × Nat × Nat) := []
theorem fl_W_ok : ∀ q ∈ fl_W, mm_FL "EditorCoreLaw" q := fun _ h => absurd h List.not_mem_nil
def fl_O : List (Nat × Nat × Nat) := []
theorem fl_O_ok : ∀ q ∈ fl_O, mm_FL "java/lang/Object" q := fun _ h => absurd h List.not_mem_nil
end
section
/-! THE LAYER. The memory of a run is flat: the i-th cell that the law's body makes lies at the address base + i, its shape is mm_SH i, its ints are J i, its references G i. -/
abbrev mm_J : Type := Nat → Nat → Int32
abbrev mm_G : Type := Nat → Nat → Option Nat
abbrev mm_E : Type := Launch × (Nat → ClassId) × (Nat → Nat → Nat) × (Nat → ClassId) × Nat × Nat
abbrev mm_l (E : mm_E) : Launch := E.1
abbrev mm_D (E : mm_E) : va_G := (E.2.1, E.2.2.1)
abbrev mm_cA (E : mm_E) (t : Nat) : ClassId := E.2.2.2.1 t
abbrev mm_b (E : mm_E) : Nat := E.2.2.2.2.1
abbrev mm_sc (E : mm_E) : Nat := E.2.2.2.2.2
abbrev mm_M : Type := MethodName × ByteArray × (Nat → Option (Instr × Nat)) × Nat × Option FieldType × Room × (Nat → Option (Nat × Nat))
abbrev mm_y (M : mm_M) : MethodName := M.1
abbrev mm_c (M : mm_M) : ByteArray := M.2.1
abbrev mm_d (M : mm_M) : Nat → Option (Instr × Nat) := M.2.2.1
abbrev mm_n (M : mm_M) : Nat := M.2.2.2.1
abbrev mm_r (M : mm_M) : Option FieldType := M.2.2.2.2.1
abbrev mm_R (M : mm_M) : Room := M.2.2.2.2.2.1
abbrev mm_f (M : mm_M) : Nat → Option (Nat × Nat) := M.2.2.2.2.2.2
abbrev mm_w (M : mm_M) : List Cond := Cond.code (mm_y M) (mm_c M) (mm_n M) (mm_r M) :: lw_t2
def mm_v (E : mm_E) (v : Value) : Value := match v with
  | .ref a => .ref (mm_b E + a)
  | .int x => .int x
  | .null => .null
  | .retAddr _ => .ref (mm_sc E)
  | w => w
theorem mm_cat (E : mm_E) (v : Value) : (mm_v E v).category = v.category := by cases v <;> rfl
def mm_o (E : mm_E) (x : Option Nat) : Option Nat := match x with
  | none => none
  | some a => some (mm_b E + a)
def mm_N (ci : Nat) : Nat := match mm_cl[ci]? with
  | some r => r.2.2
  | none => 0
def mm_val (E : mm_E) (r : Bool) (j : Nat → Int32) (g : Nat → Option Nat) (k : Nat) : Value := if r = true then va_rf (mm_o E (g k)) else .int (j k)
def mm_rt (t : Nat) : Bool := refKind (mm_ty.getD t .int)
theorem mm_rt_p {t : Nat} {ty : FieldType} (hp : mm_ty.getD t .int = ty) (h : refKind ty = false) : mm_rt t = false := by
  unfold mm_rt
  rw [hp]
  exact h
abbrev mm_val' (E : mm_E) (ci : Nat) (j : Nat → Int32) (g : Nat → Option Nat) (k : Nat) : Value := mm_val E (mm_fr ci k) j g k
def mm_at (E : mm_E) (i : Nat) (H : Heap) (sh : Nat ⊕ (Nat × Nat)) (j : Nat → Int32) (g : Nat → Option Nat) : Prop := match sh with
  | .inl ci => t_OB (mm_b E + i) ((mm_D E).1 ci) (mm_N ci) ((mm_D E).2 ci) H (mm_val' E ci j g)
  | .inr q => H[mm_b E + i]? = some (arrV (mm_cA E q.1) q.2 (mm_val E (mm_rt q.1) j g))
def mm_W (E : mm_E) (n : Nat) (J : mm_J) (G : mm_G) (H : Heap) : Prop := H.size = mm_b E + n ∧ ∀ i, i < n → mm_at E i H (mm_SH i) (J i) (G i)
def mm_tys (E : mm_E) : List (ClassId × FieldType) := (List.range mm_ty.length).map (fun t => (mm_cA E t, mm_ty.getD t .int))
def mm_K (E : mm_E) (s : State) : Prop := va_K (mm_D E) mm_cl (mm_tys E) s ∧ mm_X s
theorem mm_K.warm {E : mm_E} {s U : State} (hW : s.WarmedH U.vm) (h : mm_K E s) : mm_K E U := ⟨va_K.moved hW.alike h.1, mm_X_warm hW h.2⟩
def mm_A (E : mm_E) : Nat → Prop := fun q => mm_b E ≤ q
def mm_ok (M : mm_M) : Prop := (∀ pc i n, mm_d M pc = some (i, n) → decode (mm_c M) pc = .ok (i, n)) ∧
  ∀ idx ci k, mm_f M idx = some (ci, k) → ∃ C T N, mm_cl[ci]? = some (C, T, N) ∧ k < N ∧ Cond.fieldLink (mm_y M).cls idx (T k).1 (T k).2.1 (T k).2.2.1 ∈ lw_t2
def mm_Cx (E : mm_E) (M : mm_M) (p : Program) (s : State) (m : MethodId) (args : Array Value) (meth : Method) (c : Code) : Prop :=
  p.tables.exec = Jvm.exec ∧ c.code = mm_c M ∧ meth.sig.returnType = mm_r M ∧ c.maxLocals = mm_n M ∧ s.vm.findClass (mm_y M).cls = some m.cls ∧ meth.locks = false ∧ (∀ w ∈ lw_t2, w.before args s = true) ∧ meth.name = (mm_y M).name ∧ mm_K E s ∧ mm_b E ≤ s.heap.size ∧ mm_ok M
def mm_L (E : mm_E) (nL : Nat) (lv : List (Option Value)) (ls : Array Slot) : Prop := ls.size = nL ∧ lv_wf ls ∧ ∀ (i : Nat) (v : Value), lv[i]? = some (some v) → v.category = 1 ∧ ls[i]? = some (Slot.val (mm_v E v))
abbrev mm_T : Type := Option Value → Nat → mm_J → mm_G → Prop
def mm_Q (E : mm_E) (Post : mm_T) : Array Value → State → Outcome → State → Prop := fun _ st oc t => ∃ r n J G, oc = .returned (Option.map (mm_v E) r) ∧ Post r n J G ∧ mm_W E n J G t.heap ∧ ∀ q, q < mm_b E → t.heap[q]? = st.heap[q]?
abbrev mm_F : Type := (State → Prop) × (List Frame → Array Value → State → State → Prop)
abbrev mm_Fm (E : mm_E) (M : mm_M) (Post : mm_T) : mm_F := (fun _ => True, fun below args s => MQ below (mm_Q E Post) args s (mm_R M).cells (mm_R M).slots (mm_A E))
def mm_Go (E : mm_E) (M : mm_M) (pc : Nat) (lv : List (Option Value)) (st : List Value) (n : Nat) (J : mm_J) (G : mm_G) (cs sl : Nat) (F : mm_F) : Prop :=
  ∀ (p : Program) (e : Env) (s : State) (m : MethodId) (args : Array Value) (below : List Frame) (meth : Method) (c : Code) (H : Heap) (locs : List Loc) (ls : Array Slot),
    mm_Cx E M p s m args meth c → F.1 s → mm_L E (mm_n M) lv ls → mm_W E n J G H → va_S (mm_A E) s.heap H locs →
    W p (mm_l E) e (mm_R M) s m args below meth c H locs cs sl (F.2 below args s) (F0 m pc ls (st.map (mm_v E)))
def mm_Pc (E : mm_E) (as : List Value) (n : Nat) (J : mm_J) (G : mm_G) : Array Value → State → Prop := va_Pc (as.map (mm_v E)) (fun U => mm_W E n J G U.heap ∧ mm_K E U)
def mm_Met (E : mm_E) (M : mm_M) (as : List Value) (n : Nat) (J : mm_J) (G : mm_G) (Post : mm_T) : Prop :=
  Met (mm_l E) (mm_y M) (mm_w M) (mm_R M) (mm_Pc E as n J G) (mm_Q E Post) (mm_R M).cells (mm_R M).slots (mm_A E)
/-- the method answers r and leaves the memory (n', J', G') -/
def mm_is (r : Option Value) (n' : Nat) (J' : mm_J) (G' : mm_G) : mm_T := fun a b c d => a = r ∧ b = n' ∧ c = J' ∧ d = G'
abbrev mm_Ret (E : mm_E) (M : mm_M) (as : List Value) (n : Nat) (J : mm_J) (G : mm_G) (r : Option Value) (n' : Nat) (J' : mm_J) (G' : mm_G) : Prop := mm_Met E M as n J G (mm_is r n' J' G')
def mm_set (J : mm_J) (i k : Nat) (x : Int32) : mm_J := fun a b => if a = i ∧ b = k then x else J a b
def mm_sg (G : mm_G) (i k : Nat) (x : Option Nat) : mm_G := fun a b => if a = i ∧ b = k then x else G a b
def mm_cp (J : mm_J) (i j sp dp n : Nat) : mm_J := fun a b => if a = j then va_cpy (J i) (J j) sp dp n b else J a b
def mm_z (J : mm_J) (i : Nat) : mm_J := fun a b => if a = i then 0 else J a b
def mm_zg (G : mm_G) (i : Nat) : mm_G := fun a b => if a = i then none else G a b
theorem mm_set_at (J : mm_J) (i k : Nat) (x : Int32) : mm_set J i k x i = upd (J i) k x := by
  funext b
  simp [mm_set, upd]
theorem mm_set_ne (J : mm_J) {i a : Nat} (k : Nat) (x : Int32) (h : a ≠ i) : mm_set J i k x a = J a := by
  funext b
  simp [mm_set, h]
theorem mm_sg_at (G : mm_G) (i k : Nat) (x : Option Nat) : mm_sg G i k x i = va_up (G i) k x := by
  funext b
  simp [mm_sg, va_up]
theorem mm_sg_ne (G : mm_G) {i a : Nat} (k : Nat) (x : Option Nat) (h : a ≠ i) : mm_sg G i k x a = G a := by
  funext b
  simp [mm_sg, h]
theorem mm_at.kept {E : mm_E} {i : Nat} {H H1 : Heap} {sh : Nat ⊕ (Nat × Nat)} {j : Nat → Int32} {g : Nat → Option Nat} (h : mm_at E i H sh j g) (hq : H1[mm_b E + i]? = H[mm_b E + i]?) : mm_at E i H1 sh j g := by
  cases sh with
  | inl ci => exact t_OB.kept h hq
  | inr q => exact hq.trans h
/-- one cell has changed -/
theorem mm_W.chg {E : mm_E} {n i : Nat} {J J' : mm_J} {G G' : mm_G} {H H1 : Heap} (h : mm_W E n J G H) (z : H1.size = H.size) (oq : ∀ q : Nat, q ≠ mm_b E + i → H1[q]? = H[q]?) (hJ : ∀ a, a ≠ i → J' a = J a) (hG : ∀ a, a ≠ i → G' a = G a) (he : mm_at E i H1 (mm_SH i) (J' i) (G' i)) : mm_W E n J' G' H1 := by
  refine ⟨by rw [z]; exact h.1, fun a ha => ?_⟩
  by_cases hai : a = i
  · subst hai
    exact he
  · rw [hJ a hai, hG a hai]
    exact (h.2 a ha).kept (oq _ (by omega))
/-- a cell has come -/
theorem mm_W.push {E : mm_E} {n : Nat} {J J' : mm_J} {G G' : mm_G} {H H1 : Heap} (h : mm_W E n J G H) (z : H1.size = H.size + 1) (oq : ∀ q : Nat, q < H.size → H1[q]? = H[q]?) (hJ : ∀ a, a ≠ n → J' a = J a) (hG : ∀ a, a ≠ n → G' a = G a) (he : mm_at E n H1 (mm_SH n) (J' n) (G' n)) : mm_W E (n + 1) J' G' H1 := by
  refine ⟨by rw [z, h.1]; omega, fun a ha => ?_⟩
  by_cases hai : a = n
  · subst hai
    exact he
  · rw [hJ a hai, hG a hai]
    exact (h.2 a (by omega)).kept (oq _ (by rw [h.1]; omega))
theorem mm_S.put {E : mm_E} {H0 H H1 : Heap} {locs : List Loc} {i k : Nat} (h : va_S (mm_A E) H0 H locs) (z : H1.size = H.size) (oq : ∀ q : Nat, q ≠ mm_b E + i → H1[q]? = H[q]?) : va_S (mm_A E) H0 H1 (locs ++ [⟨mm_b E + i, k⟩]) := h.put z oq (by show mm_b E ≤ mm_b E + i; omega)
theorem mm_S.push {E : mm_E} {H0 H H1 : Heap} {locs : List Loc} (h : va_S (mm_A E) H0 H locs) (z : H1.size = H.size + 1) (oq : ∀ q : Nat, q < H.size → H1[q]? = H[q]?) : va_S (mm_A E) H0 H1 locs :=
  ⟨Nat.le_trans h.1 (by omega), fun q h1 h2 => (oq q (Nat.lt_of_lt_of_le h1 h.1)).trans (h.2.1 q h1 h2), h.2.2⟩
theorem mm_sl : ∀ (vs : List Value), (∀ v ∈ vs, v.category = 1) → lg_sl vs = vs.map Slot.val
  | [], _ => rfl
  | v :: vs, h => by
    have h1 : v.category = 1 := h v List.mem_cons_self
    have h2 := mm_sl vs (fun w hw => h w (List.mem_cons_of_mem _ hw))
    unfold lg_sl at h2 ⊢
    rw [List.flatMap_cons, h2, if_neg (by omega)]
    rfl
def mm_lv (E : mm_E) (lv : List (Option Value)) : List (Nat × Value) := (List.range lv.length).filterMap (fun j => match lv[j]? with
  | some (some w) => some (j, mm_v E w)
  | _ => none)
theorem mm_lv_in {E : mm_E} {lv : List (Option Value)} {q : Nat × Value} (h : q ∈ mm_lv E lv) : ∃ w, lv[q.1]? = some (some w) ∧ q.2 = mm_v E w := by
  obtain ⟨j, -, hj⟩ := List.mem_filterMap.mp h
  split at hj
  · rename_i w hw
    cases hj
    exact ⟨w, hw, rfl⟩
  · cases hj
theorem mm_in_lv {E : mm_E} {lv : List (Option Value)} {j : Nat} {w : Value} (h : lv[j]? = some (some w)) : (j, mm_v E w) ∈ mm_lv E lv := by
  refine List.mem_filterMap.mpr ⟨j, List.mem_range.mpr (List.getElem?_eq_some_iff.mp h).1, ?_⟩
  rw [h]
theorem mm_L.has {E : mm_E} {nL : Nat} {lv : List (Option Value)} {ls : Array Slot} (h : mm_L E nL lv ls) : lv_has ls nL (mm_lv E lv) := by
  refine ⟨h.1, h.2.1, fun q hq => ?_⟩
  obtain ⟨w, h1, h2⟩ := mm_lv_in hq
  rw [h2]
  exact (h.2.2 _ _ h1).2
theorem mm_L.stored {E : mm_E} {nL i : Nat} {v : Value} {lv : List (Option Value)} {ls ls' : Array Slot} (h : mm_L E nL lv ls) (hc : v.category = 1) (h' : lv_has ls' nL ((i, mm_v E v) :: (mm_lv E lv).filter (fun q => !(q.1 == i) && !(q.1 + 1 == i && q.2.category == 2)))) : mm_L E nL (lv.set i (some v)) ls' := by
  refine ⟨h'.1, h'.2.1, fun j w hw => ?_⟩
  rw [List.getElem?_set] at hw
  split at hw
  · rename_i hij
    subst hij
    split at hw
    · cases hw
      exact ⟨hc, h'.2.2 (i, mm_v E v) List.mem_cons_self⟩
    · cases hw
  · rename_i hij
    have hcat := (h.2.2 j w hw).1
    refine ⟨hcat, h'.2.2 (j, mm_v E w) (List.mem_cons_of_mem _ (List.mem_filter.mpr ⟨mm_in_lv hw, ?_⟩))⟩
    have e1 : (j == i) = false := by simp; omega
    have e2 : ((mm_v E w).category == 2) = false := by rw [mm_cat, hcat]; rfl
    simp [e1, e2]
theorem mm_L.entry {E : mm_E} {nL : Nat} (as : List Value) (hc : ∀ v ∈ as, v.category = 1) (hn : as.length ≤ nL) : mm_L E nL (as.map some ++ List.replicate (nL - as.length) none) ((lg_sl (as.map (mm_v E)) ++ List.replicate (nL - (lg_sl (as.map (mm_v E))).length) Slot.unset).toArray) := by
  have hs : lg_sl (as.map (mm_v E)) = (as.map (mm_v E)).map Slot.val := mm_sl _ (fun v hv => by
    obtain ⟨w, hw, rfl⟩ := List.mem_map.mp hv
    rw [mm_cat]
    exact hc w hw)
  have h0 := lv_entry (as.map (mm_v E)) (n := nL) (by rw [hs]; simp; exact hn)
  refine ⟨h0.1, h0.2.1, fun i v hv => ?_⟩
  have hi : i < as.length := by
    rcases Nat.lt_or_ge i as.length with q | q
    · exact q
    · rw [List.getElem?_append_right (by simp; exact q)] at hv
      simp [List.getElem?_replicate] at hv
  rw [List.getElem?_append_left (by simp; exact hi), List.getElem?_map, List.getElem?_eq_getElem hi] at hv
  simp only [Option.map_some, Option.some.injEq] at hv
  have hm : v ∈ as := by rw [← hv]; exact List.getElem_mem hi
  refine ⟨hc v hm, ?_⟩
  rw [hs]
  simp [List.getElem?_append, hi, hv]
theorem mm_tys_at {E : mm_E} {t : Nat} (h : t < mm_ty.length) : (mm_tys E)[t]? = some (mm_cA E t, mm_ty.getD t .int) := by
  unfold mm_tys
  rw [List.getElem?_map, List.getElem?_range h]
  rfl
theorem mm_Met.of {E : mm_E} {M : mm_M} {as : List Value} {n : Nat} {J : mm_J} {G : mm_G} {Post : mm_T} (hok : mm_ok M) (hpl : plainName (mm_y M).cls = true) (hc : ∀ v ∈ as, v.category = 1) (hn : as.length ≤ mm_n M) (h : mm_Go E M 0 (as.map some ++ List.replicate (mm_n M - as.length) none) [] n J G 0 0 (mm_Fm E M Post)) : mm_Met E M as n J G Post := by
  refine Met.ofW (cc := mm_c M) (maxL := mm_n M) (ret := mm_r M) hpl rfl ?_
  intro p e s m a below meth c s₁ B hml hv
  obtain ⟨rfl, hW, hK⟩ := hv
  rw [lg_entry_eq]
  exact h p e s m _ below meth c s.heap [] _ ⟨B.exec, B.bytes, B.returns, hml, findClass_of_methodNamed B.named, B.notSynchronized, fun w hw => atoms_spec (ws := mm_w M) B.pre w (List.mem_cons_of_mem _ hw), (name_of_methodNamed B.named B.method).1, hK, by rw [hW.1]; omega, hok⟩ trivial (mm_L.entry as hc hn) hW va_S.rf
theorem mm_blind {E : mm_E} {as : List Value} {n : Nat} {J : mm_J} {G : mm_G} : FrameBlind (mm_Pc E as n J G) := fun a U g mk q => ⟨q.1, q.2.1, va_K.moved (u := U) (U := U.calling g mk a) (Vm.Alike.refl U.vm) q.2.2.1, mm_X_same (U := U.calling g mk a) rfl q.2.2.2⟩

section MMR
variable {E : mm_E} {M : mm_M} {pc n cs sl : Nat} {lv : List (Option Value)} {st : List Value} {J : mm_J} {G : mm_G} {F : mm_F}
theorem mm_iconst {z : Int} {v : Int32} (hc : mm_d M pc = some (.iconst z, 1)) (hv : Int32.ofInt z = v) (k : mm_Go E M (pc + 1) lv (.int v :: st) n J G cs sl F) : mm_Go E M (pc) lv (st) n J G cs sl F := by
  intro p e s m args below meth c H locs ls C hY hL hW hS
  obtain ⟨hx, hb, hr, hml, hown, hlk, hts, hnm, ⟨hK, hX9⟩, hbs, hok⟩ := id C
  exact lv_iconst hx hb (hok.1 _ _ _ hc) hv (k p e s m args below meth c H locs ls C hY hL hW hS)
theorem mm_bipush {z : Int} {v : Int32} (hc : mm_d M pc = some (.bipush z, 2)) (hv : (Int8.ofInt z).toInt32 = v) (k : mm_Go E M (pc + 2) lv (.int v :: st) n J G cs sl F) : mm_Go E M (pc) lv (st) n J G cs sl F := by
  intro p e s m args below meth c H locs ls C hY hL hW hS
  obtain ⟨hx, hb, hr, hml, hown, hlk, hts, hnm, ⟨hK, hX9⟩, hbs, hok⟩ := id C
  exact lv_bipush hx hb (hok.1 _ _ _ hc) hv (k p e s m args below meth c H locs ls C hY hL hW hS)
theorem mm_sipush {z : Int} {v : Int32} (hc : mm_d M pc = some (.sipush z, 3)) (hv : (Int16.ofInt z).toInt32 = v) (k : mm_Go E M (pc + 3) lv (.int v :: st) n J G cs sl F) : mm_Go E M (pc) lv (st) n J G cs sl F := by
  intro p e s m args below meth c H locs ls C hY hL hW hS
  obtain ⟨hx, hb, hr, hml, hown, hlk, hts, hnm, ⟨hK, hX9⟩, hbs, hok⟩ := id C
  exact lv_sipush hx hb (hok.1 _ _ _ hc) hv (k p e s m args below meth c H locs ls C hY hL hW hS)
theorem mm_ldc {idx : Nat} {v : Int32} (hc : mm_d M pc = some (.ldc idx, 2)) (hv : Cond.constant (mm_y M).cls idx v ∈ lw_t2) (k : mm_Go E M (pc + 2) lv (.int v :: st) n J G cs sl F) : mm_Go E M (pc) lv (st) n J G cs sl F := by
  intro p e s m args below meth c H locs ls C hY hL hW hS
  obtain ⟨hx, hb, hr, hml, hown, hlk, hts, hnm, ⟨hK, hX9⟩, hbs, hok⟩ := id C
  exact lv_ldc hx hb hown (hts _ hv) (hok.1 _ _ _ hc) (k p e s m args below meth c H locs ls C hY hL hW hS)
theorem mm_iload_n {i : Fin 4} {x : Int32} (hc : mm_d M pc = some (.iload_n i, 1)) (hl : lv[i.val]? = some (some (.int x))) (k : mm_Go E M (pc + 1) lv (.int x :: st) n J G cs sl F) : mm_Go E M (pc) lv (st) n J G cs sl F := by
  intro p e s m args below meth c H locs ls C hY hL hW hS
  obtain ⟨hx, hb, hr, hml, hown, hlk, hts, hnm, ⟨hK, hX9⟩, hbs, hok⟩ := id C
  exact lv_iload_n hx hb (hok.1 _ _ _ hc) rfl (hL.2.2 _ _ hl).2 (k p e s m args below meth c H locs ls C hY hL hW hS)
theorem mm_iload {i : Nat} {x : Int32} (hc : mm_d M pc = some (.iload i, 2)) (hl : lv[i]? = some (some (.int x))) (k : mm_Go E M (pc + 2) lv (.int x :: st) n J G cs sl F) : mm_Go E M (pc) lv (st) n J G cs sl F := by
  intro p e s m args below meth c H locs ls C hY hL hW hS
  obtain ⟨hx, hb, hr, hml, hown, hlk, hts, hnm, ⟨hK, hX9⟩, hbs, hok⟩ := id C
  exact lv_iload hx hb (hok.1 _ _ _ hc) (hL.2.2 _ _ hl).2 (k p e s m args below meth c H locs ls C hY hL hW hS)
theorem mm_aload_n {i : Fin 4} {x : Nat} (hc : mm_d M pc = some (.aload_n i, 1)) (hl : lv[i.val]? = some (some (.ref x))) (k : mm_Go E M (pc + 1) lv (.ref x :: st) n J G cs sl F) : mm_Go E M (pc) lv (st) n J G cs sl F := by
  intro p e s m args below meth c H locs ls C hY hL hW hS
  obtain ⟨hx, hb, hr, hml, hown, hlk, hts, hnm, ⟨hK, hX9⟩, hbs, hok⟩ := id C
  exact lv_aload_n hx hb (hok.1 _ _ _ hc) rfl (hL.2.2 _ _ hl).2 (k p e s m args below meth c H locs ls C hY hL hW hS)
theorem mm_aload {i : Nat} {x : Nat} (hc : mm_d M pc = some (.aload i, 2)) (hl : lv[i]? = some (some (.ref x))) (k : mm_Go E M (pc + 2) lv (.ref x :: st) n J G cs sl F) : mm_Go E M (pc) lv (st) n J G cs sl F := by
  intro p e s m args below meth c H locs ls C hY hL hW hS
  obtain ⟨hx, hb, hr, hml, hown, hlk, hts, hnm, ⟨hK, hX9⟩, hbs, hok⟩ := id C
  exact lv_aload hx hb (hok.1 _ _ _ hc) (hL.2.2 _ _ hl).2 (k p e s m args below meth c H locs ls C hY hL hW hS)
theorem mm_istore_n {i : Fin 4} {x : Int32} (hc : mm_d M pc = some (.istore_n i, 1)) (hn : i.val < mm_n M) (k : mm_Go E M (pc + 1) (lv.set i.val (some (.int x))) (st) n J G cs sl F) : mm_Go E M (pc) lv (.int x :: st) n J G cs sl F := by
  intro p e s m args below meth c H locs ls C hY hL hW hS
  obtain ⟨hx, hb, hr, hml, hown, hlk, hts, hnm, ⟨hK, hX9⟩, hbs, hok⟩ := id C
  exact lv_istore_n hx hb (hok.1 _ _ _ hc) rfl hL.has hn rfl (fun ls' h' => k p e s m args below meth c H locs ls' C hY (hL.stored (v := .int x) rfl h') hW hS)
theorem mm_istore {i : Nat} {x : Int32} (hc : mm_d M pc = some (.istore i, 2)) (hn : i < mm_n M) (k : mm_Go E M (pc + 2) (lv.set i (some (.int x))) (st) n J G cs sl F) : mm_Go E M (pc) lv (.int x :: st) n J G cs sl F := by
  intro p e s m args below meth c H locs ls C hY hL hW hS
  obtain ⟨hx, hb, hr, hml, hown, hlk, hts, hnm, ⟨hK, hX9⟩, hbs, hok⟩ := id C
  exact lv_istore hx hb (hok.1 _ _ _ hc) hL.has hn rfl (fun ls' h' => k p e s m args below meth c H locs ls' C hY (hL.stored (v := .int x) rfl h') hW hS)
theorem mm_astore_n {i : Fin 4} {x : Nat} (hc : mm_d M pc = some (.astore_n i, 1)) (hn : i.val < mm_n M) (k : mm_Go E M (pc + 1) (lv.set i.val (some (.ref x))) (st) n J G cs sl F) : mm_Go E M (pc) lv (.ref x :: st) n J G cs sl F := by
  intro p e s m args below meth c H locs ls C hY hL hW hS
  obtain ⟨hx, hb, hr, hml, hown, hlk, hts, hnm, ⟨hK, hX9⟩, hbs, hok⟩ := id C
  exact lv_astore_n hx hb (hok.1 _ _ _ hc) rfl hL.has hn rfl (fun ls' h' => k p e s m args below meth c H locs ls' C hY (hL.stored (v := .ref x) rfl h') hW hS)
theorem mm_astore {i : Nat} {x : Nat} (hc : mm_d M pc = some (.astore i, 2)) (hn : i < mm_n M) (k : mm_Go E M (pc + 2) (lv.set i (some (.ref x))) (st) n J G cs sl F) : mm_Go E M (pc) lv (.ref x :: st) n J G cs sl F := by
  intro p e s m args below meth c H locs ls C hY hL hW hS
  obtain ⟨hx, hb, hr, hml, hown, hlk, hts, hnm, ⟨hK, hX9⟩, hbs, hok⟩ := id C
  exact lv_astore hx hb (hok.1 _ _ _ hc) hL.has hn rfl (fun ls' h' => k p e s m args below meth c H locs ls' C hY (hL.stored (v := .ref x) rfl h') hW hS)
theorem mm_iinc {i : Nat} {z : Int} {x v : Int32} (hc : mm_d M pc = some (.iinc i z, 3)) (hl : lv[i]? = some (some (.int x))) (hv : x + Int32.ofInt z = v) (hn : i < mm_n M) (k : mm_Go E M (pc + 3) (lv.set i (some (.int v))) (st) n J G cs sl F) : mm_Go E M (pc) lv (st) n J G cs sl F := by
  intro p e s m args below meth c H locs ls C hY hL hW hS
  obtain ⟨hx, hb, hr, hml, hown, hlk, hts, hnm, ⟨hK, hX9⟩, hbs, hok⟩ := id C
  obtain ⟨q, hq⟩ := List.getElem?_of_mem (mm_in_lv (E := E) hl)
  exact lv_iinc hx hb (hok.1 _ _ _ hc) hL.has hq hv hn rfl (fun ls' h' => k p e s m args below meth c H locs ls' C hY (hL.stored (v := .int v) rfl h') hW hS)
theorem mm_iadd {x y : Int32} (hc : mm_d M pc = some (.iadd, 1)) (k : mm_Go E M (pc + 1) lv (.int (x + y) :: st) n J G cs sl F) : mm_Go E M (pc) lv (.int y :: .int x :: st) n J G cs sl F := by
  intro p e s m args below meth c H locs ls C hY hL hW hS
  obtain ⟨hx, hb, hr, hml, hown, hlk, hts, hnm, ⟨hK, hX9⟩, hbs, hok⟩ := id C
  exact lv_iadd hx hb (hok.1 _ _ _ hc) (k p e s m args below meth c H locs ls C hY hL hW hS)
theorem mm_isub {x y : Int32} (hc : mm_d M pc = some (.isub, 1)) (k : mm_Go E M (pc + 1) lv (.int (x - y) :: st) n J G cs sl F) : mm_Go E M (pc) lv (.int y :: .int x :: st) n J G cs sl F := by
  intro p e s m args below meth c H locs ls C hY hL hW hS
  obtain ⟨hx, hb, hr, hml, hown, hlk, hts, hnm, ⟨hK, hX9⟩, hbs, hok⟩ := id C
  exact lv_isub hx hb (hok.1 _ _ _ hc) (k p e s m args below meth c H locs ls C hY hL hW hS)
theorem mm_imul {x y : Int32} (hc : mm_d M pc = some (.imul, 1)) (k : mm_Go E M (pc + 1) lv (.int (x * y) :: st) n J G cs sl F) : mm_Go E M (pc) lv (.int y :: .int x :: st) n J G cs sl F := by
  intro p e s m args below meth c H locs ls C hY hL hW hS
  obtain ⟨hx, hb, hr, hml, hown, hlk, hts, hnm, ⟨hK, hX9⟩, hbs, hok⟩ := id C
  exact lv_imul hx hb (hok.1 _ _ _ hc) (k p e s m args below meth c H locs ls C hY hL hW hS)
theorem mm_iand {x y : Int32} (hc : mm_d M pc = some (.iand, 1)) (k : mm_Go E M (pc + 1) lv (.int (x &&& y) :: st) n J G cs sl F) : mm_Go E M (pc) lv (.int y :: .int x :: st) n J G cs sl F := by
  intro p e s m args below meth c H locs ls C hY hL hW hS
  obtain ⟨hx, hb, hr, hml, hown, hlk, hts, hnm, ⟨hK, hX9⟩, hbs, hok⟩ := id C
  exact lv_iand hx hb (hok.1 _ _ _ hc) (k p e s m args below meth c H locs ls C hY hL hW hS)
theorem mm_ior {x y : Int32} (hc : mm_d M pc = some (.ior, 1)) (k : mm_Go E M (pc + 1) lv (.int (x ||| y) :: st) n J G cs sl F) : mm_Go E M (pc) lv (.int y :: .int x :: st) n J G cs sl F := by
  intro p e s m args below meth c H locs ls C hY hL hW hS
  obtain ⟨hx, hb, hr, hml, hown, hlk, hts, hnm, ⟨hK, hX9⟩, hbs, hok⟩ := id C
  exact lv_ior hx hb (hok.1 _ _ _ hc) (k p e s m args below meth c H locs ls C hY hL hW hS)
theorem mm_ixor {x y : Int32} (hc : mm_d M pc = some (.ixor, 1)) (k : mm_Go E M (pc + 1) lv (.int (x ^^^ y) :: st) n J G cs sl F) : mm_Go E M (pc) lv (.int y :: .int x :: st) n J G cs sl F := by
  intro p e s m args below meth c H locs ls C hY hL hW hS
  obtain ⟨hx, hb, hr, hml, hown, hlk, hts, hnm, ⟨hK, hX9⟩, hbs, hok⟩ := id C
  exact lv_ixor hx hb (hok.1 _ _ _ hc) (k p e s m args below meth c H locs ls C hY hL hW hS)
theorem mm_ishl {x y : Int32} (hc : mm_d M pc = some (.ishl, 1)) (k : mm_Go E M (pc + 1) lv (.int (x <<< (y &&& 31)) :: st) n J G cs sl F) : mm_Go E M (pc) lv (.int y :: .int x :: st) n J G cs sl F := by
  intro p e s m args below meth c H locs ls C hY hL hW hS
  obtain ⟨hx, hb, hr, hml, hown, hlk, hts, hnm, ⟨hK, hX9⟩, hbs, hok⟩ := id C
  exact lv_ishl hx hb (hok.1 _ _ _ hc) (k p e s m args below meth c H locs ls C hY hL hW hS)
theorem mm_ishr {x y : Int32} (hc : mm_d M pc = some (.ishr, 1)) (k : mm_Go E M (pc + 1) lv (.int (x >>> (y &&& 31)) :: st) n J G cs sl F) : mm_Go E M (pc) lv (.int y :: .int x :: st) n J G cs sl F := by
  intro p e s m args below meth c H locs ls C hY hL hW hS
  obtain ⟨hx, hb, hr, hml, hown, hlk, hts, hnm, ⟨hK, hX9⟩, hbs, hok⟩ := id C
  exact lv_ishr hx hb (hok.1 _ _ _ hc) (k p e s m args below meth c H locs ls C hY hL hW hS)
theorem mm_idiv {x y : Int32} (hc : mm_d M pc = some (.idiv, 1)) (h0 : ¬ y = 0) (k : mm_Go E M (pc + 1) lv (.int (x / y) :: st) n J G cs sl F) : mm_Go E M (pc) lv (.int y :: .int x :: st) n J G cs sl F := by
  intro p e s m args below meth c H locs ls C hY hL hW hS
  obtain ⟨hx, hb, hr, hml, hown, hlk, hts, hnm, ⟨hK, hX9⟩, hbs, hok⟩ := id C
  exact lv_idiv hx hb (hok.1 _ _ _ hc) h0 (k p e s m args below meth c H locs ls C hY hL hW hS)
theorem mm_irem {x y : Int32} (hc : mm_d M pc = some (.irem, 1)) (h0 : ¬ y = 0) (k : mm_Go E M (pc + 1) lv (.int (x - x / y * y) :: st) n J G cs sl F) : mm_Go E M (pc) lv (.int y :: .int x :: st) n J G cs sl F := by
  intro p e s m args below meth c H locs ls C hY hL hW hS
  obtain ⟨hx, hb, hr, hml, hown, hlk, hts, hnm, ⟨hK, hX9⟩, hbs, hok⟩ := id C
  exact lv_irem hx hb (hok.1 _ _ _ hc) h0 (k p e s m args below meth c H locs ls C hY hL hW hS)
theorem mm_ineg {x : Int32} (hc : mm_d M pc = some (.ineg, 1)) (k : mm_Go E M (pc + 1) lv (.int (-x) :: st) n J G cs sl F) : mm_Go E M (pc) lv (.int x :: st) n J G cs sl F := by
  intro p e s m args below meth c H locs ls C hY hL hW hS
  obtain ⟨hx, hb, hr, hml, hown, hlk, hts, hnm, ⟨hK, hX9⟩, hbs, hok⟩ := id C
  exact lv_ineg hx hb (hok.1 _ _ _ hc) (k p e s m args below meth c H locs ls C hY hL hW hS)
theorem mm_dup {a : Value} (hc : mm_d M pc = some (.dup, 1)) (h1 : a.category = 1) (k : mm_Go E M (pc + 1) lv (a :: a :: st) n J G cs sl F) : mm_Go E M (pc) lv (a :: st) n J G cs sl F := by
  intro p e s m args below meth c H locs ls C hY hL hW hS
  obtain ⟨hx, hb, hr, hml, hown, hlk, hts, hnm, ⟨hK, hX9⟩, hbs, hok⟩ := id C
  exact lv_dup hx hb (hok.1 _ _ _ hc) ((mm_cat E a).trans h1) (k p e s m args below meth c H locs ls C hY hL hW hS)
theorem mm_pop {a : Value} (hc : mm_d M pc = some (.pop, 1)) (h1 : a.category = 1) (k : mm_Go E M (pc + 1) lv (st) n J G cs sl F) : mm_Go E M (pc) lv (a :: st) n J G cs sl F := by
  intro p e s m args below meth c H locs ls C hY hL hW hS
  obtain ⟨hx, hb, hr, hml, hown, hlk, hts, hnm, ⟨hK, hX9⟩, hbs, hok⟩ := id C
  exact lv_pop hx hb (hok.1 _ _ _ hc) ((mm_cat E a).trans h1) (k p e s m args below meth c H locs ls C hY hL hW hS)
theorem mm_dup_x1 {a b : Value} (hc : mm_d M pc = some (.dup_x1, 1)) (h1 : a.category = 1) (h2 : b.category = 1) (k : mm_Go E M (pc + 1) lv (a :: b :: a :: st) n J G cs sl F) : mm_Go E M (pc) lv (a :: b :: st) n J G cs sl F := by
  intro p e s m args below meth c H locs ls C hY hL hW hS
  obtain ⟨hx, hb, hr, hml, hown, hlk, hts, hnm, ⟨hK, hX9⟩, hbs, hok⟩ := id C
  exact lv_dup_x1 hx hb (hok.1 _ _ _ hc) ((mm_cat E a).trans h1) ((mm_cat E b).trans h2) (k p e s m args below meth c H locs ls C hY hL hW hS)
theorem mm_dup_x2 {a b d : Value} (hc : mm_d M pc = some (.dup_x2, 1)) (h1 : a.category = 1) (h2 : b.category = 1) (h3 : d.category = 1) (k : mm_Go E M (pc + 1) lv (a :: b :: d :: a :: st) n J G cs sl F) : mm_Go E M (pc) lv (a :: b :: d :: st) n J G cs sl F := by
  intro p e s m args below meth c H locs ls C hY hL hW hS
  obtain ⟨hx, hb, hr, hml, hown, hlk, hts, hnm, ⟨hK, hX9⟩, hbs, hok⟩ := id C
  exact lv_dup_x2 hx hb (hok.1 _ _ _ hc) ((mm_cat E a).trans h1) ((mm_cat E b).trans h2) ((mm_cat E d).trans h3) (k p e s m args below meth c H locs ls C hY hL hW hS)
theorem mm_dup2 {a b : Value} (hc : mm_d M pc = some (.dup2, 1)) (h1 : a.category = 1) (h2 : b.category = 1) (k : mm_Go E M (pc + 1) lv (a :: b :: a :: b :: st) n J G cs sl F) : mm_Go E M (pc) lv (a :: b :: st) n J G cs sl F := by
  intro p e s m args below meth c H locs ls C hY hL hW hS
  obtain ⟨hx, hb, hr, hml, hown, hlk, hts, hnm, ⟨hK, hX9⟩, hbs, hok⟩ := id C
  exact lv_dup2_11 hx hb (hok.1 _ _ _ hc) ((mm_cat E a).trans h1) ((mm_cat E b).trans h2) (k p e s m args below meth c H locs ls C hY hL hW hS)
theorem mm_if_eq {x : Int32} {off : Int} {tgt : Nat} (hc : mm_d M pc = some (.ifCond .eq off, 3)) (ht : (pc : Int) + off = (tgt : Int)) (kt : x = 0 → mm_Go E M (tgt) lv (st) n J G cs sl F) (kf : ¬ x = 0 → mm_Go E M (pc + 3) lv (st) n J G cs sl F) : mm_Go E M (pc) lv (.int x :: st) n J G cs sl F := by
  intro p e s m args below meth c H locs ls C hY hL hW hS
  obtain ⟨hx, hb, hr, hml, hown, hlk, hts, hnm, ⟨hK, hX9⟩, hbs, hok⟩ := id C
  exact lv_if_eq hx hb (hok.1 _ _ _ hc) ht (fun h => kt h p e s m args below meth c H locs ls C hY hL hW hS) (fun h => kf h p e s m args below meth c H locs ls C hY hL hW hS)
theorem mm_if_ne {x : Int32} {off : Int} {tgt : Nat} (hc : mm_d M pc = some (.ifCond .ne off, 3)) (ht : (pc : Int) + off = (tgt : Int)) (kt : ¬ x = 0 → mm_Go E M (tgt) lv (st) n J G cs sl F) (kf : x = 0 → mm_Go E M (pc + 3) lv (st) n J G cs sl F) : mm_Go E M (pc) lv (.int x :: st) n J G cs sl F := by
  intro p e s m args below meth c H locs ls C hY hL hW hS
  obtain ⟨hx, hb, hr, hml, hown, hlk, hts, hnm, ⟨hK, hX9⟩, hbs, hok⟩ := id C
  exact lv_if_ne hx hb (hok.1 _ _ _ hc) ht (fun h => kt h p e s m args below meth c H locs ls C hY hL hW hS) (fun h => kf h p e s m args below meth c H locs ls C hY hL hW hS)
theorem mm_if_lt {x : Int32} {off : Int} {tgt : Nat} (hc : mm_d M pc = some (.ifCond .lt off, 3)) (ht : (pc : Int) + off = (tgt : Int)) (kt : x < 0 → mm_Go E M (tgt) lv (st) n J G cs sl F) (kf : ¬ x < 0 → mm_Go E M (pc + 3) lv (st) n J G cs sl F) : mm_Go E M (pc) lv (.int x :: st) n J G cs sl F := by
  intro p e s m args below meth c H locs ls C hY hL hW hS
  obtain ⟨hx, hb, hr, hml, hown, hlk, hts, hnm, ⟨hK, hX9⟩, hbs, hok⟩ := id C
  exact lv_if_lt hx hb (hok.1 _ _ _ hc) ht (fun h => kt h p e s m args below meth c H locs ls C hY hL hW hS) (fun h => kf h p e s m args below meth c H locs ls C hY hL hW hS)
theorem mm_if_ge {x : Int32} {off : Int} {tgt : Nat} (hc : mm_d M pc = some (.ifCond .ge off, 3)) (ht : (pc : Int) + off = (tgt : Int)) (kt : 0 ≤ x → mm_Go E M (tgt) lv (st) n J G cs sl F) (kf : ¬ 0 ≤ x → mm_Go E M (pc + 3) lv (st) n J G cs sl F) : mm_Go E M (pc) lv (.int x :: st) n J G cs sl F := by
  intro p e s m args below meth c H locs ls C hY hL hW hS
  obtain ⟨hx, hb, hr, hml, hown, hlk, hts, hnm, ⟨hK, hX9⟩, hbs, hok⟩ := id C
  exact lv_if_ge hx hb (hok.1 _ _ _ hc) ht (fun h => kt h p e s m args below meth c H locs ls C hY hL hW hS) (fun h => kf h p e s m args below meth c H locs ls C hY hL hW hS)
theorem mm_if_gt {x : Int32} {off : Int} {tgt : Nat} (hc : mm_d M pc = some (.ifCond .gt off, 3)) (ht : (pc : Int) + off = (tgt : Int)) (kt : 0 < x → mm_Go E M (tgt) lv (st) n J G cs sl F) (kf : ¬ 0 < x → mm_Go E M (pc + 3) lv (st) n J G cs sl F) : mm_Go E M (pc) lv (.int x :: st) n J G cs sl F := by
  intro p e s m args below meth c H locs ls C hY hL hW hS
  obtain ⟨hx, hb, hr, hml, hown, hlk, hts, hnm, ⟨hK, hX9⟩, hbs, hok⟩ := id C
  exact lv_if_gt hx hb (hok.1 _ _ _ hc) ht (fun h => kt h p e s m args below meth c H locs ls C hY hL hW hS) (fun h => kf h p e s m args below meth c H locs ls C hY hL hW hS)
theorem mm_if_le {x : Int32} {off : Int} {tgt : Nat} (hc : mm_d M pc = some (.ifCond .le off, 3)) (ht : (pc : Int) + off = (tgt : Int)) (kt : x ≤ 0 → mm_Go E M (tgt) lv (st) n J G cs sl F) (kf : ¬ x ≤ 0 → mm_Go E M (pc + 3) lv (st) n J G cs sl F) : mm_Go E M (pc) lv (.int x :: st) n J G cs sl F := by
  intro p e s m args below meth c H locs ls C hY hL hW hS
  obtain ⟨hx, hb, hr, hml, hown, hlk, hts, hnm, ⟨hK, hX9⟩, hbs, hok⟩ := id C
  exact lv_if_le hx hb (hok.1 _ _ _ hc) ht (fun h => kt h p e s m args below meth c H locs ls C hY hL hW hS) (fun h => kf h p e s m args below meth c H locs ls C hY hL hW hS)
theorem mm_icmp_eq {x y : Int32} {off : Int} {tgt : Nat} (hc : mm_d M pc = some (.if_icmp .eq off, 3)) (ht : (pc : Int) + off = (tgt : Int)) (kt : x = y → mm_Go E M (tgt) lv (st) n J G cs sl F) (kf : ¬ x = y → mm_Go E M (pc + 3) lv (st) n J G cs sl F) : mm_Go E M (pc) lv (.int y :: .int x :: st) n J G cs sl F := by
  intro p e s m args below meth c H locs ls C hY hL hW hS
  obtain ⟨hx, hb, hr, hml, hown, hlk, hts, hnm, ⟨hK, hX9⟩, hbs, hok⟩ := id C
  exact lv_icmp_eq hx hb (hok.1 _ _ _ hc) ht (fun h => kt h p e s m args below meth c H locs ls C hY hL hW hS) (fun h => kf h p e s m args below meth c H locs ls C hY hL hW hS)
theorem mm_icmp_ne {x y : Int32} {off : Int} {tgt : Nat} (hc : mm_d M pc = some (.if_icmp .ne off, 3)) (ht : (pc : Int) + off = (tgt : Int)) (kt : ¬ x = y → mm_Go E M (tgt) lv (st) n J G cs sl F) (kf : x = y → mm_Go E M (pc + 3) lv (st) n J G cs sl F) : mm_Go E M (pc) lv (.int y :: .int x :: st) n J G cs sl F := by
  intro p e s m args below meth c H locs ls C hY hL hW hS
  obtain ⟨hx, hb, hr, hml, hown, hlk, hts, hnm, ⟨hK, hX9⟩, hbs, hok⟩ := id C
  exact lv_icmp_ne hx hb (hok.1 _ _ _ hc) ht (fun h => kt h p e s m args below meth c H locs ls C hY hL hW hS) (fun h => kf h p e s m args below meth c H locs ls C hY hL hW hS)
theorem mm_icmp_lt {x y : Int32} {off : Int} {tgt : Nat} (hc : mm_d M pc = some (.if_icmp .lt off, 3)) (ht : (pc : Int) + off = (tgt : Int)) (kt : x < y → mm_Go E M (tgt) lv (st) n J G cs sl F) (kf : ¬ x < y → mm_Go E M (pc + 3) lv (st) n J G cs sl F) : mm_Go E M (pc) lv (.int y :: .int x :: st) n J G cs sl F := by
  intro p e s m args below meth c H locs ls C hY hL hW hS
  obtain ⟨hx, hb, hr, hml, hown, hlk, hts, hnm, ⟨hK, hX9⟩, hbs, hok⟩ := id C
  exact lv_icmp_lt hx hb (hok.1 _ _ _ hc) ht (fun h => kt h p e s m args below meth c H locs ls C hY hL hW hS) (fun h => kf h p e s m args below meth c H locs ls C hY hL hW hS)
theorem mm_icmp_ge {x y : Int32} {off : Int} {tgt : Nat} (hc : mm_d M pc = some (.if_icmp .ge off, 3)) (ht : (pc : Int) + off = (tgt : Int)) (kt : y ≤ x → mm_Go E M (tgt) lv (st) n J G cs sl F) (kf : ¬ y ≤ x → mm_Go E M (pc + 3) lv (st) n J G cs sl F) : mm_Go E M (pc) lv (.int y :: .int x :: st) n J G cs sl F := by
  intro p e s m args below meth c H locs ls C hY hL hW hS
  obtain ⟨hx, hb, hr, hml, hown, hlk, hts, hnm, ⟨hK, hX9⟩, hbs, hok⟩ := id C
  exact lv_icmp_ge hx hb (hok.1 _ _ _ hc) ht (fun h => kt h p e s m args below meth c H locs ls C hY hL hW hS) (fun h => kf h p e s m args below meth c H locs ls C hY hL hW hS)
theorem mm_icmp_gt {x y : Int32} {off : Int} {tgt : Nat} (hc : mm_d M pc = some (.if_icmp .gt off, 3)) (ht : (pc : Int) + off = (tgt : Int)) (kt : y < x → mm_Go E M (tgt) lv (st) n J G cs sl F) (kf : ¬ y < x → mm_Go E M (pc + 3) lv (st) n J G cs sl F) : mm_Go E M (pc) lv (.int y :: .int x :: st) n J G cs sl F := by
  intro p e s m args below meth c H locs ls C hY hL hW hS
  obtain ⟨hx, hb, hr, hml, hown, hlk, hts, hnm, ⟨hK, hX9⟩, hbs, hok⟩ := id C
  exact lv_icmp_gt hx hb (hok.1 _ _ _ hc) ht (fun h => kt h p e s m args below meth c H locs ls C hY hL hW hS) (fun h => kf h p e s m args below meth c H locs ls C hY hL hW hS)
theorem mm_icmp_le {x y : Int32} {off : Int} {tgt : Nat} (hc : mm_d M pc = some (.if_icmp .le off, 3)) (ht : (pc : Int) + off = (tgt : Int)) (kt : x ≤ y → mm_Go E M (tgt) lv (st) n J G cs sl F) (kf : ¬ x ≤ y → mm_Go E M (pc + 3) lv (st) n J G cs sl F) : mm_Go E M (pc) lv (.int y :: .int x :: st) n J G cs sl F := by
  intro p e s m args below meth c H locs ls C hY hL hW hS
  obtain ⟨hx, hb, hr, hml, hown, hlk, hts, hnm, ⟨hK, hX9⟩, hbs, hok⟩ := id C
  exact lv_icmp_le hx hb (hok.1 _ _ _ hc) ht (fun h => kt h p e s m args below meth c H locs ls C hY hL hW hS) (fun h => kf h p e s m args below meth c H locs ls C hY hL hW hS)
theorem mm_goto {off : Int} {tgt : Nat} (hc : mm_d M pc = some (.goto off, 3)) (ht : (pc : Int) + off = (tgt : Int)) (k : mm_Go E M (tgt) lv (st) n J G cs sl F) : mm_Go E M (pc) lv (st) n J G cs sl F := by
  intro p e s m args below meth c H locs ls C hY hL hW hS
  obtain ⟨hx, hb, hr, hml, hown, hlk, hts, hnm, ⟨hK, hX9⟩, hbs, hok⟩ := id C
  exact lv_goto hx hb (hok.1 _ _ _ hc) ht (k p e s m args below meth c H locs ls C hY hL hW hS)
theorem mm_tableOut {dflt lo hi : Int} {offs : Array Int} {len tgt : Nat} {x : Int32} (hc : mm_d M pc = some (.tableswitch dflt lo hi offs, len)) (h : x.toInt < lo ∨ hi < x.toInt) (ht : (pc : Int) + dflt = (tgt : Int)) (k : mm_Go E M (tgt) lv (st) n J G cs sl F) : mm_Go E M (pc) lv (.int x :: st) n J G cs sl F := by
  intro p e s m args below meth c H locs ls C hY hL hW hS
  obtain ⟨hx, hb, hr, hml, hown, hlk, hts, hnm, ⟨hK, hX9⟩, hbs, hok⟩ := id C
  exact lv_tableOut hx hb (hok.1 _ _ _ hc) h ht (k p e s m args below meth c H locs ls C hY hL hW hS)
theorem mm_tableIn {dflt lo hi off : Int} {offs : Array Int} {len tgt : Nat} {x : Int32} (hc : mm_d M pc = some (.tableswitch dflt lo hi offs, len)) (h1 : ¬ x.toInt < lo) (h2 : ¬ hi < x.toInt) (ho : offs[(x.toInt - lo).toNat]? = some off) (ht : (pc : Int) + off = (tgt : Int)) (k : mm_Go E M (tgt) lv (st) n J G cs sl F) : mm_Go E M (pc) lv (.int x :: st) n J G cs sl F := by
  intro p e s m args below meth c H locs ls C hY hL hW hS
  obtain ⟨hx, hb, hr, hml, hown, hlk, hts, hnm, ⟨hK, hX9⟩, hbs, hok⟩ := id C
  exact lv_tableIn hx hb (hok.1 _ _ _ hc) h1 h2 ho ht (k p e s m args below meth c H locs ls C hY hL hW hS)
theorem mm_lookup {dflt off : Int} {ps : Array (Int × Int)} {len tgt : Nat} {x : Int32} (hc : mm_d M pc = some (.lookupswitch dflt ps, len)) (hp : (ps.toList.zip (ps.toList.drop 1)).all (fun (a, next) => a.1 < next.1) = true) (ho : Op.lookupswitch.offset ps.toList dflt x.toInt = off) (ht : (pc : Int) + off = (tgt : Int)) (k : mm_Go E M (tgt) lv (st) n J G cs sl F) : mm_Go E M (pc) lv (.int x :: st) n J G cs sl F := by
  intro p e s m args below meth c H locs ls C hY hL hW hS
  obtain ⟨hx, hb, hr, hml, hown, hlk, hts, hnm, ⟨hK, hX9⟩, hbs, hok⟩ := id C
  exact lv_lookup hx hb (hok.1 _ _ _ hc) hp ho ht (k p e s m args below meth c H locs ls C hY hL hW hS)
theorem mm_ret0 {Post : mm_T} {r : Option Value} {Hh : Heap} {locs : List Loc} {s : State} (hp : Post r n J G) (hW : mm_W E n J G Hh) (hS : va_S (mm_A E) s.heap Hh locs) (hbs : mm_b E ≤ s.heap.size) {t : State} (ht : t.heap = Hh) (a : Array Value) : mm_Q E Post a s (.returned (Option.map (mm_v E) r)) t :=
  ⟨r, n, J, G, rfl, hp, by rw [ht]; exact hW, fun q hq => by rw [ht]; exact hS.2.1 q (by omega) (by show ¬ mm_b E ≤ q; omega)⟩
theorem mm_ireturn {Post : mm_T} {x : Int32} {ty : FieldType} (hc : mm_d M pc = some (.ireturn, 1)) (hr : mm_r M = some ty) (hn : narrow ty (.int x) = .int x) (h1 : cs ≤ (mm_R M).cells) (h2 : sl ≤ (mm_R M).slots) (hp : Post (some (.int x)) n J G) : mm_Go E M pc lv [.int x] n J G cs sl (mm_Fm E M Post) := by
  intro p e s m args below meth c H locs ls C hY hL hW hS
  obtain ⟨hx, hb, hr', hml, hown, hlk, hts, hnm, ⟨hK, hX9⟩, hbs, hok⟩ := id C
  refine W.widen h1 h2 ?_
  exact W.zret (v := x) (ty := ty) hx hb (hr'.trans hr) hn (fun t ht hw => mm_ret0 hp hW hS hbs ht _) hS.2.2 (hok.1 _ _ _ hc) hlk
theorem mm_return {Post : mm_T} (hc : mm_d M pc = some (.return_, 1)) (hr : mm_r M = none) (h1 : cs ≤ (mm_R M).cells) (h2 : sl ≤ (mm_R M).slots) (hp : Post none n J G) : mm_Go E M pc lv [] n J G cs sl (mm_Fm E M Post) := by
  intro p e s m args below meth c H locs ls C hY hL hW hS
  obtain ⟨hx, hb, hr', hml, hown, hlk, hts, hnm, ⟨hK, hX9⟩, hbs, hok⟩ := id C
  refine W.widen h1 h2 ?_
  exact W.vret hx hb (hr'.trans hr) (fun t ht hw => mm_ret0 hp hW hS hbs ht _) hS.2.2 (hok.1 _ _ _ hc) hlk
theorem mm_areturn {Post : mm_T} {a : Nat} {ty : FieldType} (hc : mm_d M pc = some (.areturn, 1)) (hr : mm_r M = some ty) (hty : (∃ z, ty = .object z) ∨ ∃ t, ty = .array t) (h1 : cs ≤ (mm_R M).cells) (h2 : sl ≤ (mm_R M).slots) (hp : Post (some (.ref a)) n J G) : mm_Go E M pc lv [.ref a] n J G cs sl (mm_Fm E M Post) := by
  intro p e s m args below meth c H locs ls C hY hL hW hS
  obtain ⟨hx, hb, hr', hml, hown, hlk, hts, hnm, ⟨hK, hX9⟩, hbs, hok⟩ := id C
  refine W.widen h1 h2 ?_
  exact W.aret (v := .ref (mm_b E + a)) hx hb (hr'.trans hr) hty (Or.inr ⟨_, rfl⟩) (fun t ht hw => mm_ret0 (r := some (.ref a)) hp hW hS hbs ht _) hS.2.2 (hok.1 _ _ _ hc) hlk

theorem mm_obj {a ci : Nat} {H : Heap} (hW : mm_W E n J G H) (ha : a < n) (hs : mm_SH a = .inl ci) : t_OB (mm_b E + a) ((mm_D E).1 ci) (mm_N ci) ((mm_D E).2 ci) H (mm_val' E ci (J a) (G a)) := by
  have h := hW.2 a ha
  rw [hs] at h
  exact h
theorem mm_arr {a t len : Nat} {H : Heap} (hW : mm_W E n J G H) (ha : a < n) (hs : mm_SH a = .inr (t, len)) : H[mm_b E + a]? = some (arrV (mm_cA E t) len (mm_val E (mm_rt t) (J a) (G a))) := by
  have h := hW.2 a ha
  rw [hs] at h
  exact h
theorem mm_N_of {ci : Nat} {C : String} {T : u_T} {N : Nat} (h : mm_cl[ci]? = some (C, T, N)) : mm_N ci = N := by
  unfold mm_N
  rw [h]
theorem mm_getV {idx ci k0 a : Nat} {v : Value} (hc : mm_d M pc = some (.getfield idx, 3)) (hf : mm_f M idx = some (ci, k0)) (hs : mm_SH a = .inl ci) (ha : a < n) (hv : mm_val' E ci (J a) (G a) k0 = mm_v E v) (k : mm_Go E M (pc + 3) lv (v :: st) n J G cs sl F) : mm_Go E M pc lv (.ref a :: st) n J G cs sl F := by
  intro p e s m args below meth c H locs ls C hY hL hW hS
  obtain ⟨hx, hb, hr, hml, hown, hlk, hts, hnm, ⟨hK, hX9⟩, hbs, hok⟩ := id C
  obtain ⟨C0, T, N, hcl, hkN, hlink⟩ := hok.2 _ _ _ hf
  have hin := (mm_clOK ci C0 T N hcl).2.2.2
  obtain ⟨cell, q1, q2, q3, q4⟩ := mm_obj hW ha hs
  rw [mm_N_of hcl] at q4
  obtain ⟨hSl, hfc, kC, hkC, hkind⟩ := hK.1 ci _ hcl
  obtain ⟨cf, kf, fi, f, hi, hsl⟩ := hSl k0 hkN
  refine W.getf hx hb hown (hts _ hlink) hi (u_facts hfc hkC (u_lays hts hin hkN) hi).1 q1 (by rw [q3]; exact fun h => by cases h) (v := mm_v E v) ?_ rfl rfl (hok.1 _ _ _ hc) (k p e s m args below meth c H locs ls C hY hL hW hS)
  rw [hsl, q4 k0 hkN, hv]
theorem mm_getI {idx ci k0 a : Nat} {x : Int32} (hc : mm_d M pc = some (.getfield idx, 3)) (hf : mm_f M idx = some (ci, k0)) (hs : mm_SH a = .inl ci) (ha : a < n) (hr : mm_fr ci k0 = false) (hv : J a k0 = x) (k : mm_Go E M (pc + 3) lv (.int x :: st) n J G cs sl F) : mm_Go E M pc lv (.ref a :: st) n J G cs sl F := by
  subst hv
  exact mm_getV hc hf hs ha (by show mm_val E _ _ _ _ = _; rw [hr]; rfl) k
theorem mm_getR {idx ci k0 a b : Nat} (hc : mm_d M pc = some (.getfield idx, 3)) (hf : mm_f M idx = some (ci, k0)) (hs : mm_SH a = .inl ci) (ha : a < n) (hr : mm_fr ci k0 = true) (hg : G a k0 = some b) (k : mm_Go E M (pc + 3) lv (.ref b :: st) n J G cs sl F) : mm_Go E M pc lv (.ref a :: st) n J G cs sl F :=
  mm_getV (v := .ref b) hc hf hs ha (by show mm_val E _ _ _ _ = _; rw [hr]; show va_rf (mm_o E (G a k0)) = _; rw [hg]; rfl) k
theorem mm_putV {idx ci k0 a : Nat} {v : Value} {J' : mm_J} {G' : mm_G} (hc : mm_d M pc = some (.putfield idx, 3)) (hf : mm_f M idx = some (ci, k0)) (hs : mm_SH a = .inl ci) (ha : a < n)
    (hfin : mm_ff ci k0 = false ∨ (mm_y M).name = "<init>" ∧ mm_fo ci k0 = (mm_y M).cls) (hn : narrow (mm_fd ci k0) (mm_v E v) = mm_v E v) (hfit : fits (mm_fd ci k0) (mm_v E v) = true)
    (hJ : ∀ b, b ≠ a → J' b = J b) (hG : ∀ b, b ≠ a → G' b = G b) (hv : ∀ j, mm_val' E ci (J' a) (G' a) j = updV (mm_val' E ci (J a) (G a)) k0 (mm_v E v) j)
    (k : mm_Go E M (pc + 3) lv st n J' G' cs sl F) : mm_Go E M pc lv (v :: .ref a :: st) n J G cs sl F := by
  intro p e s m args below meth c H locs ls C hY hL hW hS
  obtain ⟨hx, hb, hr, hml, hown, hlk, hts, hnm, ⟨hK, hX9⟩, hbs, hok⟩ := id C
  obtain ⟨C0, T, N, hcl, hkN, hlink⟩ := hok.2 _ _ _ hf
  have hin := (mm_clOK ci C0 T N hcl).2.2.2
  obtain ⟨cell, q1, q2, q3, q4⟩ := mm_obj hW ha hs
  have q4' := q4
  rw [mm_N_of hcl] at q4
  obtain ⟨htyp, hnames, hffi, hin9⟩ := mm_clOK ci C0 T N hcl
  have hap := va_apart (own := (mm_y M).cls) hts hin (mm_fd ci) htyp hnames hK hcl
  obtain ⟨hSl, hfc, kC, hkC, hkind⟩ := hK.1 ci _ hcl
  obtain ⟨cf, kf, fi, f, hi, hsl⟩ := hSl k0 hkN
  have hst := (u_facts hfc hkC (u_lays hts hin hkN) hi).1
  have hend : ∀ H1 : Heap, H1[mm_b E + a]? = some (cell.setSlot f.slot (mm_v E v)) → H1.size = H.size → (∀ q, q ≠ mm_b E + a → H1[q]? = H[q]?) → W p (mm_l E) e (mm_R M) s m args below meth c H1 (locs ++ [⟨mm_b E + a, f.slot⟩]) cs sl (F.2 below args s) (F0 m (pc + 3) ls (st.map (mm_v E))) := by
    intro H1 e1 e2 e3
    refine k p e s m args below meth c H1 _ ls C hY hL (hW.chg e2 e3 hJ hG ?_) (mm_S.put hS e2 e3)
    rw [hs]
    show t_OB _ _ _ _ _ _
    rw [hsl] at e1
    refine ⟨_, e1, q2, q3, fun j hj => ?_⟩
    rw [mm_N_of hcl] at hj
    rw [t_set q4 hap hkN (mm_v E v) j hj, hv j]
  have hlay := hts _ (hin _ (u_in_lay hkN))
  unfold u_lay at hlay
  by_cases hz : (T k0).2.2.2 = true
  · rw [if_pos hz] at hlay
    rcases hfin with hfin | ⟨hin2, hdecl⟩
    · rw [(hffi k0 hkN).1, hz] at hfin
      cases hfin
    have hcf : m.cls = cf := by
      obtain ⟨_, _, c', _, _, _, -, -, hf', -, -, -, hown2, -⟩ := Cond.laysFinal_spec hlay
      have e1 : c' = cf := by have := hi.symm.trans hf'; simp at this; exact this.1.symm
      rw [← (hffi k0 hkN).2.1, hdecl] at hown2
      rw [← e1]; exact Option.some.inj (hown.symm.trans hown2)
    have h6 := u_fits hfc hkC hkind (Or.inr hlay) hi (htyp k0 hkN) hn hfit
    exact W.putFinK hx hb hown (hts _ hlink) hi hst hcf (hnm.trans hin2) (by rw [q2]; exact h6) q1 q3 (by rw [hsl]; exact k2_hasslot (q4 k0 hkN)) rfl rfl (hok.1 _ _ _ hc) hend
  · rw [if_neg hz] at hlay
    have h6 := u_store hfc hkC hkind hlay hi (htyp k0 hkN) hn hfit
    exact W.putK hx hb (f := f) ⟨hown, hts _ hlink, ⟨_, _, _, hi⟩, hst⟩ (by rw [q2]; exact h6) q1 q3 (by rw [hsl]; exact k2_hasslot (q4 k0 hkN)) rfl rfl (hok.1 _ _ _ hc) hend
theorem mm_putI {idx ci k0 a : Nat} {x : Int32} (hc : mm_d M pc = some (.putfield idx, 3)) (hf : mm_f M idx = some (ci, k0)) (hs : mm_SH a = .inl ci) (ha : a < n) (hr : mm_fr ci k0 = false)
    (hfin : mm_ff ci k0 = false ∨ (mm_y M).name = "<init>" ∧ mm_fo ci k0 = (mm_y M).cls) (hn : narrow (mm_fd ci k0) (.int x) = .int x) (hfit : fits (mm_fd ci k0) (.int x) = true)
    (k : mm_Go E M (pc + 3) lv st n (mm_set J a k0 x) G cs sl F) : mm_Go E M pc lv (.int x :: .ref a :: st) n J G cs sl F := by
  refine mm_putV (v := .int x) (J' := mm_set J a k0 x) (G' := G) hc hf hs ha hfin hn hfit (fun b hb => mm_set_ne J k0 x hb) (fun _ _ => rfl) (fun j => ?_) k
  rw [mm_set_at]
  by_cases hj : j = k0
  · subst hj
    simp [updV, mm_val, upd, hr, mm_v]
  · simp [updV, mm_val, upd, hj]
theorem mm_putR {idx ci k0 a b : Nat} (hc : mm_d M pc = some (.putfield idx, 3)) (hf : mm_f M idx = some (ci, k0)) (hs : mm_SH a = .inl ci) (ha : a < n) (hr : mm_fr ci k0 = true)
    (hfin : mm_ff ci k0 = false ∨ (mm_y M).name = "<init>" ∧ mm_fo ci k0 = (mm_y M).cls) (hn : narrow (mm_fd ci k0) (.ref (mm_b E + b)) = .ref (mm_b E + b)) (hfit : fits (mm_fd ci k0) (.ref (mm_b E + b)) = true)
    (k : mm_Go E M (pc + 3) lv st n J (mm_sg G a k0 (some b)) cs sl F) : mm_Go E M pc lv (.ref b :: .ref a :: st) n J G cs sl F := by
  refine mm_putV (v := .ref b) (J' := J) (G' := mm_sg G a k0 (some b)) hc hf hs ha hfin hn hfit (fun _ _ => rfl) (fun b' hb => mm_sg_ne G k0 (some b) hb) (fun j => ?_) k
  rw [mm_sg_at]
  by_cases hj : j = k0
  · subst hj
    simp [updV, mm_val, va_up, hr, mm_v, mm_o, va_rf]
  · simp [updV, mm_val, va_up, hj]

theorem mm_rdI {a t len : Nat} {i : Int32} (hs : mm_SH a = .inr (t, len)) (ht : t < mm_ty.length) (hp : mm_ty.getD t .int = .int) (ha : a < n) (hi : vp_in i len) (hc : mm_d M pc = some (.iaload, 1)) (k : mm_Go E M (pc + 1) lv (.int (J a i.toNatClampNeg) :: st) n J G cs sl F) : mm_Go E M pc lv (.int i :: .ref a :: st) n J G cs sl F := by
  intro p e s m args below meth c H locs ls C hY hL hW hS
  obtain ⟨hx, hb, hr, hml, hown, hlk, hts, hnm, ⟨hK, hX9⟩, hbs, hok⟩ := id C
  have hlt : i.toNatClampNeg < len := Nat.not_le.mp fun q => hi (Or.inr q)
  have hA := (hK.2 t _ (mm_tys_at ht)).1
  rw [hp] at hA
  exact W.iald (v := .int (J a i.toNatClampNeg)) hx hb (mm_arr hW ha hs) (hA len _) (fun q => by cases q) (by rw [arrV_size]; exact hi) (by rw [arrV_read _ _ hlt]; simp [mm_val, mm_rt_p hp rfl]) rfl rfl (hok.1 _ _ _ hc) (k p e s m args below meth c H locs ls C hY hL hW hS)
theorem mm_rdZ {a t len : Nat} {i : Int32} (hs : mm_SH a = .inr (t, len)) (ht : t < mm_ty.length) (hp : mm_ty.getD t .int = .boolean) (ha : a < n) (hi : vp_in i len) (hc : mm_d M pc = some (.baload, 1)) (k : mm_Go E M (pc + 1) lv (.int (J a i.toNatClampNeg) :: st) n J G cs sl F) : mm_Go E M pc lv (.int i :: .ref a :: st) n J G cs sl F := by
  intro p e s m args below meth c H locs ls C hY hL hW hS
  obtain ⟨hx, hb, hr, hml, hown, hlk, hts, hnm, ⟨hK, hX9⟩, hbs, hok⟩ := id C
  have hlt : i.toNatClampNeg < len := Nat.not_le.mp fun q => hi (Or.inr q)
  have hA := (hK.2 t _ (mm_tys_at ht)).1
  rw [hp] at hA
  exact W.zald (v := .int (J a i.toNatClampNeg)) hx hb (mm_arr hW ha hs) (hA len _) (fun q => by cases q) (by rw [arrV_size]; exact hi) (by rw [arrV_read _ _ hlt]; simp [mm_val, mm_rt_p hp rfl]) rfl rfl (hok.1 _ _ _ hc) (k p e s m args below meth c H locs ls C hY hL hW hS)
theorem mm_rdR {a t len b : Nat} {i : Int32} (hs : mm_SH a = .inr (t, len)) (ht : t < mm_ty.length) (hp : (mm_ty.getD t .int).isReference = true) (hp2 : mm_rt t = true) (ha : a < n) (hi : vp_in i len) (hg : G a i.toNatClampNeg = some b) (hc : mm_d M pc = some (.aaload, 1)) (k : mm_Go E M (pc + 1) lv (.ref b :: st) n J G cs sl F) : mm_Go E M pc lv (.int i :: .ref a :: st) n J G cs sl F := by
  intro p e s m args below meth c H locs ls C hY hL hW hS
  obtain ⟨hx, hb, hr, hml, hown, hlk, hts, hnm, ⟨hK, hX9⟩, hbs, hok⟩ := id C
  have hlt : i.toNatClampNeg < len := Nat.not_le.mp fun q => hi (Or.inr q)
  have hA := (hK.2 t _ (mm_tys_at ht)).1
  exact W.aald (v := .ref (mm_b E + b)) hx hb (mm_arr hW ha hs) (hA len _) hp (fun q => by cases q) (by rw [arrV_size]; exact hi) (by rw [arrV_read _ _ hlt]; simp [mm_val, hp2, hg, mm_o, va_rf]) rfl rfl (hok.1 _ _ _ hc) (k p e s m args below meth c H locs ls C hY hL hW hS)
theorem mm_len {a t len : Nat} {v : Int32} (hs : mm_SH a = .inr (t, len)) (ht : t < mm_ty.length) (ha : a < n) (hv : Int32.ofNat len = v) (hc : mm_d M pc = some (.arraylength, 1)) (k : mm_Go E M (pc + 1) lv (.int v :: st) n J G cs sl F) : mm_Go E M pc lv (.ref a :: st) n J G cs sl F := by
  intro p e s m args below meth c H locs ls C hY hL hW hS
  obtain ⟨hx, hb, hr, hml, hown, hlk, hts, hnm, ⟨hK, hX9⟩, hbs, hok⟩ := id C
  exact W.alen (n := v) hx hb (mm_arr hW ha hs) ((hK.2 t _ (mm_tys_at ht)).1 len _) (by rw [arrV_size]; exact hv) rfl rfl (hok.1 _ _ _ hc) (k p e s m args below meth c H locs ls C hY hL hW hS)
theorem mm_wrI {a t len : Nat} {i x : Int32} (hs : mm_SH a = .inr (t, len)) (ht : t < mm_ty.length) (hp : mm_ty.getD t .int = .int) (ha : a < n) (hi : vp_in i len) (hc : mm_d M pc = some (.iastore, 1)) (k : mm_Go E M (pc + 1) lv st n (mm_set J a i.toNatClampNeg x) G cs sl F) : mm_Go E M pc lv (.int x :: .int i :: .ref a :: st) n J G cs sl F := by
  intro p e s m args below meth c H locs ls C hY hL hW hS
  obtain ⟨hx, hb, hr, hml, hown, hlk, hts, hnm, ⟨hK, hX9⟩, hbs, hok⟩ := id C
  have hA := (hK.2 t _ (mm_tys_at ht)).1
  rw [hp] at hA
  refine W.iast hx hb (mm_arr hW ha hs) (hA len _) (fun q => by cases q) (by rw [arrV_size]; exact hi) rfl rfl (hok.1 _ _ _ hc) fun H1 e1 z oq => ?_
  refine k p e s m args below meth c H1 _ ls C hY hL (hW.chg (J' := mm_set J a i.toNatClampNeg x) (G' := G) z oq (fun b hb => mm_set_ne J _ x hb) (fun _ _ => rfl) ?_) (mm_S.put hS z oq)
  rw [hs, mm_set_at]
  show H1[mm_b E + a]? = some (arrV _ _ _)
  rw [e1, arrV_store]
  congr 2
  funext q
  by_cases hq : q = i.toNatClampNeg
  · subst hq
    simp [updV, upd, mm_val, mm_rt_p hp rfl]
  · simp [updV, upd, mm_val, hq]
theorem mm_wrZ {a t len : Nat} {i x : Int32} (hs : mm_SH a = .inr (t, len)) (ht : t < mm_ty.length) (hp : mm_ty.getD t .int = .boolean) (ha : a < n) (hi : vp_in i len) (hn : narrow .boolean (.int x) = .int x) (hc : mm_d M pc = some (.bastore, 1)) (k : mm_Go E M (pc + 1) lv st n (mm_set J a i.toNatClampNeg x) G cs sl F) : mm_Go E M pc lv (.int x :: .int i :: .ref a :: st) n J G cs sl F := by
  intro p e s m args below meth c H locs ls C hY hL hW hS
  obtain ⟨hx, hb, hr, hml, hown, hlk, hts, hnm, ⟨hK, hX9⟩, hbs, hok⟩ := id C
  have hA := (hK.2 t _ (mm_tys_at ht)).1
  rw [hp] at hA
  refine W.zast hx hb (mm_arr hW ha hs) (hA len _) (fun q => by cases q) (by rw [arrV_size]; exact hi) rfl rfl (hok.1 _ _ _ hc) fun H1 e1 z oq => ?_
  refine k p e s m args below meth c H1 _ ls C hY hL (hW.chg (J' := mm_set J a i.toNatClampNeg x) (G' := G) z oq (fun b hb => mm_set_ne J _ x hb) (fun _ _ => rfl) ?_) (mm_S.put hS z oq)
  rw [hs, mm_set_at]
  show H1[mm_b E + a]? = some (arrV _ _ _)
  rw [e1, hn, arrV_store]
  congr 2
  funext q
  by_cases hq : q = i.toNatClampNeg
  · subst hq
    simp [updV, upd, mm_val, mm_rt_p hp rfl]
  · simp [updV, upd, mm_val, hq]
theorem mm_wrR {a t len v ci : Nat} {i : Int32} {C0 : String} {T : u_T} {N : Nat} (hs : mm_SH a = .inr (t, len)) (ht : t < mm_ty.length) (hp : mm_ty.getD t .int = .object C0) (ha : a < n) (hi : vp_in i len) (hv : v < n) (hsv : mm_SH v = .inl ci) (hcl : mm_cl[ci]? = some (C0, T, N)) (hc : mm_d M pc = some (.aastore, 1)) (k : mm_Go E M (pc + 1) lv st n J (mm_sg G a i.toNatClampNeg (some v)) cs sl F) : mm_Go E M pc lv (.ref v :: .int i :: .ref a :: st) n J G cs sl F := by
  intro p e s m args below meth c H locs ls C hY hL hW hS
  obtain ⟨hx, hb, hr, hml, hown, hlk, hts, hnm, ⟨hK, hX9⟩, hbs, hok⟩ := id C
  have hlt : i.toNatClampNeg < len := Nat.not_le.mp fun q => hi (Or.inr q)
  have h0 : ¬ i < 0 := fun q => hi (Or.inl q)
  have hrt : mm_rt t = true := by unfold mm_rt; rw [hp]; rfl
  obtain ⟨cellV, g1, g2, g3, -⟩ := mm_obj hW hv hsv
  have hcls := (hK.1 ci _ hcl).2
  have hRA := (hK.2 t _ (mm_tys_at ht)).2
  dsimp only at hRA
  rw [hp] at hRA
  obtain ⟨kA, comp, k1, k2, k3, -⟩ := hRA
  have hcomp : comp = (mm_D E).1 ci := Option.some.inj (k3.symm.trans hcls.1)
  subst hcomp
  obtain ⟨kC, hkC, -⟩ := hcls.2
  refine W.aast hx hb (mm_arr hW ha hs) (fun q h => by cases h) (fun h => by cases h) k1 k2 rfl hkC ⟨h0, by rw [arrV_size]; exact hlt⟩ g1 (fun q h => by rw [g3] at h; cases h) (by rw [g2]; exact hkC) (by rw [g2]; exact va_assign hcls) rfl rfl (hok.1 _ _ _ hc) fun H1 e1 z oq => ?_
  refine k p e s m args below meth c H1 _ ls C hY hL (hW.chg (J' := J) (G' := mm_sg G a i.toNatClampNeg (some v)) z oq (fun _ _ => rfl) (fun b hb => mm_sg_ne G _ (some v) hb) ?_) (mm_S.put hS z oq)
  rw [hs, mm_sg_at]
  show H1[mm_b E + a]? = some (arrV _ _ _)
  rw [e1, arrV_store]
  congr 2
  funext q
  by_cases hq : q = i.toNatClampNeg
  · subst hq
    simp [updV, va_up, mm_val, hrt, mm_o, va_rf]
  · simp [updV, va_up, mm_val, hq]

theorem mm_new {idx ci N : Nat} {C0 : String} {T : u_T} (hc : mm_d M pc = some (.new idx, 3)) (hs : mm_SH n = .inl ci) (hcl : mm_cl[ci]? = some (C0, T, N)) (hw1 : Cond.classLink (mm_y M).cls idx C0 ∈ lw_t2) (hw2 : Cond.instantiable C0 N ∈ lw_t2) (hw3 : Cond.initialized C0 ∈ lw_t2)
    (h1 : cs + 1 ≤ (mm_R M).cells) (h2 : sl + N ≤ (mm_R M).slots) (k : mm_Go E M (pc + 3) lv (.ref n :: st) (n + 1) (mm_z J n) (mm_zg G n) (cs + 1) (sl + N) F) : mm_Go E M pc lv st n J G cs sl F := by
  intro p e s m args below meth c H locs ls C hY hL hW hS
  obtain ⟨hx, hb, hr, hml, hown, hlk, hts, hnm, ⟨hK, hX9⟩, hbs, hok⟩ := id C
  obtain ⟨htyp, hnames, hffi, hin9⟩ := mm_clOK ci C0 T N hcl
  have hKn := hK.1 ci _ hcl
  refine W.newcK (cC := (mm_D E).1 ci) hx hb hown (hts _ hw1) (hts _ hw2) (hts _ hw3) rfl (hok.1 _ _ _ hc) h1 h2 hKn.2.1 hW.1 fun H1 kC hkC e1 z1 o1 => ?_
  have o1' : ∀ q : Nat, q < H.size → H1[q]? = H[q]? := fun q hq => o1 q (by rw [← hW.1]; exact hq)
  have z1' : H1.size = H.size + 1 := by rw [z1, hW.1]
  refine k p e s m args below meth c H1 locs ls C hY hL (hW.push (J' := mm_z J n) (G' := mm_zg G n) z1' o1' (fun a ha => by funext b; simp [mm_z, ha]) (fun a ha => by funext b; simp [mm_zg, ha]) ?_) (mm_S.push hS z1' o1')
  rw [hs]
  show t_OB _ _ _ _ _ _
  rw [mm_N_of hcl]
  refine (u_born (mm_fd ci) hts hin9 hKn hkC e1 htyp).to (fun j hj => ?_)
  rw [(hffi j hj).2.2]
  cases hfr : mm_fr ci j <;> simp [mm_val, mm_z, mm_zg, hfr, mm_o, va_rf]
theorem mm_newa {t len : Nat} {at_ : ArrayType} {x : Int32} (hc : mm_d M pc = some (.newarray at_, 2)) (hs : mm_SH n = .inr (t, len)) (ht : t < mm_ty.length) (hty : newarray.typeOf at_ = mm_ty.getD t .int) (hp : mm_rt t = false) (hd : defaultValue (newarray.typeOf at_) = .int 0) (hw1 : Cond.arrayClass (newarray.typeOf at_) ∈ lw_t2)
    (hn : ¬ x < 0) (hN : x.toNatClampNeg = len) (hbytes : len * componentBytes (newarray.typeOf at_) ≤ 536870912) (h1 : cs + 1 ≤ (mm_R M).cells) (h2 : sl + len ≤ (mm_R M).slots) (k : mm_Go E M (pc + 2) lv (.ref n :: st) (n + 1) (mm_z J n) (mm_zg G n) (cs + 1) (sl + len) F) : mm_Go E M pc lv (.int x :: st) n J G cs sl F := by
  intro p e s m args below meth c H locs ls C hY hL hW hS
  obtain ⟨hx, hb, hr, hml, hown, hlk, hts, hnm, ⟨hK, hX9⟩, hbs, hok⟩ := id C
  have hRA := (hK.2 t _ (mm_tys_at ht)).2
  dsimp only at hRA
  rw [← hty] at hRA
  have hcA : s.vm.findClass ("[" ++ (newarray.typeOf at_).toString) = some (mm_cA E t) := by
    cases at_ <;> exact hRA
  refine va_newaK hx hb (hts _ hw1) rfl (hok.1 _ _ _ hc) rfl hn hN hbytes h1 h2 hW.1 fun H1 cA e1 z1 o1 hAr hNm => ?_
  have hcc : cA = mm_cA E t := Option.some.inj (hNm.symm.trans hcA)
  subst hcc
  have o1' : ∀ q : Nat, q < H.size → H1[q]? = H[q]? := fun q hq => o1 q (by rw [← hW.1]; exact hq)
  have z1' : H1.size = H.size + 1 := by rw [z1, hW.1]
  refine k p e s m args below meth c H1 locs ls C hY hL (hW.push (J' := mm_z J n) (G' := mm_zg G n) z1' o1' (fun a ha => by funext b; simp [mm_z, ha]) (fun a ha => by funext b; simp [mm_zg, ha]) ?_) (mm_S.push hS z1' o1')
  rw [hs]
  show H1[mm_b E + n]? = some (arrV _ _ _)
  rw [e1, hd]
  congr 2
  funext j
  simp [mm_val, hp, mm_z]
theorem mm_newq {t len idx : Nat} {C0 : String} {x : Int32} (hc : mm_d M pc = some (.anewarray idx, 3)) (hs : mm_SH n = .inr (t, len)) (ht : t < mm_ty.length) (hty : mm_ty.getD t .int = .object C0) (hw1 : Cond.classLink (mm_y M).cls idx C0 ∈ lw_t2) (hC0 : C0 = "EditorCore$Letters")
    (hn : ¬ x < 0) (hN : x.toNatClampNeg = len) (hbytes : len * 4 ≤ 536870912) (h1 : cs + 1 ≤ (mm_R M).cells) (h2 : sl + len ≤ (mm_R M).slots) (k : mm_Go E M (pc + 3) lv (.ref n :: st) (n + 1) (mm_z J n) (mm_zg G n) (cs + 1) (sl + len) F) : mm_Go E M pc lv (.int x :: st) n J G cs sl F := by
  intro p e s m args below meth c H locs ls C hY hL hW hS
  obtain ⟨hx, hb, hr, hml, hown, hlk, hts, hnm, ⟨hK, hX9⟩, hbs, hok⟩ := id C
  have hRA := (hK.2 t _ (mm_tys_at ht)).2
  dsimp only at hRA
  rw [hty] at hRA
  obtain ⟨kA0, comp0, -, -, -, hcA⟩ := hRA
  have hrt : mm_rt t = true := by unfold mm_rt; rw [hty]; rfl
  subst hN
  subst hC0
  refine W.anew hx hb hown (hts _ hw1) (va_AO.use hX9.1) rfl (hok.1 _ _ _ hc) rfl hn hbytes h1 h2 fun cA kA comp f1 f2 f3 f4 => ?_
  have hcc : cA = mm_cA E t := Option.some.inj (f1.symm.trans hcA)
  subst hcc
  generalize hH1 : H.push ({ cls := mm_cA E t, slots := Array.replicate x.toNatClampNeg .null, vm := .none } : Cell) = H1
  have z1' : H1.size = H.size + 1 := by rw [← hH1, Array.size_push]
  have e1 : H1[H.size]? = some (arrV (mm_cA E t) x.toNatClampNeg (fun _ => .null)) := by rw [← hH1, Array.getElem?_push_size, ← arrV_new]
  have o1' : ∀ q : Nat, q < H.size → H1[q]? = H[q]? := fun q hq => by rw [← hH1, Array.getElem?_push, if_neg (Nat.ne_of_lt hq)]
  rw [hW.1] at e1 ⊢
  refine k p e s m args below meth c H1 locs ls C hY hL (hW.push (J' := mm_z J n) (G' := mm_zg G n) z1' o1' (fun a ha => by funext b; simp [mm_z, ha]) (fun a ha => by funext b; simp [mm_zg, ha]) ?_) (mm_S.push hS z1' o1')
  rw [hs]
  show H1[mm_b E + n]? = some (arrV _ _ _)
  rw [e1]
  congr 2
  funext j
  simp [mm_val, hrt, mm_zg, mm_o, va_rf]
theorem mm_objInit {idx a : Nat} (hc : mm_d M pc = some (.invokespecial idx, 3)) (hw1 : Cond.methodLink (mm_y M).cls idx Lib.objectInit ∈ lw_t2) (hw2 : Cond.instanceMethod Lib.objectInit ∈ lw_t2) (hw3 : Cond.code Lib.objectInit ⟨#[0xb1]⟩ 1 none ∈ lw_t2) (hf : 1 ≤ (mm_R M).frames) (hl : ((st.map (mm_v E)).map fun v => v.category).sum + 12 ≤ (mm_R M).locals) (k : mm_Go E M (pc + 3) lv st n J G cs sl F) : mm_Go E M pc lv (.ref a :: st) n J G cs sl F := by
  intro p e s m args below meth c H locs ls C hY hL hW hS
  obtain ⟨hx, hb, hr, hml, hown, hlk, hts, hnm, ⟨hK, hX9⟩, hbs, hok⟩ := id C
  exact W.objInit hx hb hown (hts _ hw1) (hts _ hw2) (hts _ hw3) rfl (by rw [hml]; exact hL.1) rfl (hok.1 _ _ _ hc) hf (by show 2 * 0 + _ + 12 ≤ _; omega) (k p e s m args below meth c H locs ls C hY hL hW hS)
theorem mm_min {idx : Nat} {x y : Int32} (hc : mm_d M pc = some (.invokestatic idx, 3)) (hw1 : Cond.methodLink (mm_y M).cls idx Lib.Math.min.name ∈ lw_t2) (hw2 : Cond.static Lib.Math.min.name ∈ lw_t2) (hw3 : Cond.initialized "java/lang/Math" ∈ lw_t2) (hw4 : Cond.code Lib.Math.min.name Lib.Math.min.code 2 (some .int) ∈ lw_t2) (hf : 1 ≤ (mm_R M).frames) (hl : ((st.map (mm_v E)).map fun v => v.category).sum + 13 ≤ (mm_R M).locals) (h1 : cs ≤ (mm_R M).cells) (h2 : sl ≤ (mm_R M).slots)
    (k : mm_Go E M (pc + 3) lv (.int (if y < x then y else x) :: st) n J G cs sl F) : mm_Go E M pc lv (.int y :: .int x :: st) n J G cs sl F := by
  intro p e s m args below meth c H locs ls C hY hL hW hS
  obtain ⟨hx, hb, hr, hml, hown, hlk, hts, hnm, ⟨hK, hX9⟩, hbs, hok⟩ := id C
  exact va_mmin hx hb (hml.trans hL.1.symm) hown (hts _ hw1) (hts _ hw2) (hts _ hw3) (hts _ hw4) hf hl h1 h2 (hok.1 _ _ _ hc) (k p e s m args below meth c H locs ls C hY hL hW hS)
theorem mm_max {idx : Nat} {x y : Int32} (hc : mm_d M pc = some (.invokestatic idx, 3)) (hw1 : Cond.methodLink (mm_y M).cls idx Lib.Math.max.name ∈ lw_t2) (hw2 : Cond.static Lib.Math.max.name ∈ lw_t2) (hw3 : Cond.initialized "java/lang/Math" ∈ lw_t2) (hw4 : Cond.code Lib.Math.max.name Lib.Math.max.code 2 (some .int) ∈ lw_t2) (hf : 1 ≤ (mm_R M).frames) (hl : ((st.map (mm_v E)).map fun v => v.category).sum + 13 ≤ (mm_R M).locals) (h1 : cs ≤ (mm_R M).cells) (h2 : sl ≤ (mm_R M).slots)
    (k : mm_Go E M (pc + 3) lv (.int (if x < y then y else x) :: st) n J G cs sl F) : mm_Go E M pc lv (.int y :: .int x :: st) n J G cs sl F := by
  intro p e s m args below meth c H locs ls C hY hL hW hS
  obtain ⟨hx, hb, hr, hml, hown, hlk, hts, hnm, ⟨hK, hX9⟩, hbs, hok⟩ := id C
  exact va_mmax hx hb (hml.trans hL.1.symm) hown (hts _ hw1) (hts _ hw2) (hts _ hw3) (hts _ hw4) hf hl h1 h2 (hok.1 _ _ _ hc) (k p e s m args below meth c H locs ls C hY hL hW hS)
theorem mm_copy {idx a0 a t n0 n1 : Nat} {sp dp z : Int32} (hc : mm_d M pc = some (.invokestatic idx, 3)) (hw1 : Cond.methodLink (mm_y M).cls idx arraycopyName ∈ lw_t2) (hw2 : Cond.native arraycopyName ∈ lw_t2) (hw3 : Cond.static arraycopyName ∈ lw_t2) (hw4 : Cond.initialized "java/lang/System" ∈ lw_t2)
    (hs0 : mm_SH a0 = .inr (t, n0)) (hs1 : mm_SH a = .inr (t, n1)) (ht : t < mm_ty.length) (hp : mm_ty.getD t .int = .int) (ha0 : a0 < n) (ha : a < n) (h1 : ¬ sp < 0) (h2 : ¬ dp < 0) (h3 : ¬ z < 0) (h4 : sp.toNatClampNeg + z.toNatClampNeg ≤ n0) (h5 : dp.toNatClampNeg + z.toNatClampNeg ≤ n1)
    (hf : 1 ≤ (mm_R M).frames) (hl : ((st.map (mm_v E)).map fun v => v.category).sum + (nativeFrameWords "java/lang/System" "arraycopy" 5 + 11) ≤ (mm_R M).locals)
    (k : mm_Go E M (pc + 3) lv st n (mm_cp J a0 a sp.toNatClampNeg dp.toNatClampNeg z.toNatClampNeg) G cs sl F) : mm_Go E M pc lv (.int z :: .int dp :: .ref a :: .int sp :: .ref a0 :: st) n J G cs sl F := by
  intro p e s m args below meth c H locs ls C hY hL hW hS
  obtain ⟨hx, hb, hr, hml, hown, hlk, hts, hnm, ⟨hK, hX9⟩, hbs, hok⟩ := id C
  have nn : ∀ z : Int32, ¬ z < 0 → z.toInt = (z.toNatClampNeg : Int) := by
    intro z hz
    have hz0 : (0 : Int) ≤ z.toInt := by
      have := Int32.not_lt.mp hz
      simpa using Int32.le_iff_toInt_le.mp this
    show z.toInt = ((z.toInt.toNat : Nat) : Int)
    omega
  have hval : ∀ b, mm_val E (mm_rt t) (J b) (G b) = fun j => Value.int (J b j) := fun b => by
    funext j
    simp [mm_val, mm_rt_p hp rfl]
  intro T hT X
  have hc0 := mm_arr hW ha0 hs0
  have hc1 := mm_arr hW ha hs1
  rw [hval] at hc0 hc1
  have hA := (hK.2 t _ (mm_tys_at ht)).1
  rw [hp] at hA
  obtain ⟨-, k0, hk0, cm0, hkk0⟩ := hA n0 (fun j => .int (J a0 j))
  obtain ⟨-, k1, hk1, cm1, hkk1⟩ := hA n1 (fun j => .int (J a j))
  obtain ⟨vm', X', step⟩ := X.arraycopy hx hown (hts _ hw1) (hts _ hw2) (hts _ hw3) (hts _ hw4) (src := mm_b E + a0) (dst := mm_b E + a) (cs := arrV (mm_cA E t) n0 (fun j => .int (J a0 j))) (cd := arrV (mm_cA E t) n1 (fun j => .int (J a j))) (srcPos := sp) (destPos := dp) (n := z) (by rw [hT]; exact hc0) (by rw [hT]; exact hc1)
    (fun _ h => by cases h) (fun _ h => by cases h) (fun h => by cases h) (fun h => by cases h) hk0 hk1 hkk0 hkk1 (by simp [refKind]) h1 h2 h3
    (by rw [nn sp h1, nn z h3, arrV_size]; omega)
    (by rw [nn dp h2, nn z h3, arrV_size]; omega)
    (fun vm₁ _ i hi => by
      have e0 : (arrV (mm_cA E t) n0 (fun j => .int (J a0 j))).slots.getD (sp.toNatClampNeg + i) .null = .int (J a0 (sp.toNatClampNeg + i)) := by
        rw [Array.getD_eq_getD_getElem?, arrV_read _ _ (by omega)]
        rfl
      refine ⟨?_, ?_⟩
      · rw [e0]
        rfl
      · rw [e0]
        exact trivial)
    (g := F0 m pc ls (.int z :: .int dp :: .ref (mm_b E + a) :: .int sp :: .ref (mm_b E + a0) :: st.map (mm_v E))) rfl (by rw [hml]; exact hL.1) (rest := st.map (mm_v E)) rfl (by rw [hb]; exact hok.1 _ _ _ hc) hf (by show 2 * 0 + _ + _ ≤ _; omega)
  have e1 : copied (arrV (mm_cA E t) n0 (fun j => .int (J a0 j))) (arrV (mm_cA E t) n1 (fun j => .int (J a j))) sp dp z = arrV (mm_cA E t) n1 (fun j => .int (va_cpy (J a0) (J a) sp.toNatClampNeg dp.toNatClampNeg z.toNatClampNeg j)) := va_copied (fun z => .int z) _ _ (J a0) (J a) h4
  rw [e1] at X' step
  have hl' : mm_b E + a < H.size := (Array.getElem?_eq_some_iff.mp hc1).1
  generalize hY9 : arrV (mm_cA E t) n1 (fun j => Value.int (va_cpy (J a0) (J a) sp.toNatClampNeg dp.toNatClampNeg z.toNatClampNeg j)) = Y at X' step
  have hheap : ((T.setVm vm').setCell (mm_b E + a) Y).heap = H.setIfInBounds (mm_b E + a) Y := by rw [← hT]; rfl
  have oq : ∀ q : Nat, q ≠ mm_b E + a → (H.setIfInBounds (mm_b E + a) Y)[q]? = H[q]? := fun q hq => by simp [Array.getElem?_setIfInBounds, Ne.symm hq]
  have oa : (H.setIfInBounds (mm_b E + a) Y)[mm_b E + a]? = some Y := by simp [Array.getElem?_setIfInBounds, hl']
  have hz : (H.setIfInBounds (mm_b E + a) Y).size = H.size := by simp
  obtain ⟨t2, a1, b1⟩ := k p e s m args below meth c (H.setIfInBounds (mm_b E + a) Y) _ ls C hY hL (hW.chg (J' := mm_cp J a0 a sp.toNatClampNeg dp.toNatClampNeg z.toNatClampNeg) (G' := G) hz oq (fun b hb => by funext j; simp [mm_cp, hb]) (fun _ _ => rfl) (by
      rw [hs1]
      show (H.setIfInBounds (mm_b E + a) Y)[mm_b E + a]? = some (arrV _ _ _)
      rw [oa, ← hY9]
      congr 2
      funext j
      simp [mm_val, mm_rt_p hp rfl, mm_cp])) ⟨by rw [hz]; exact hS.1, fun q g1 g2 => by
      rw [oq q (fun e0 => g2 (by rw [e0]; show mm_b E ≤ mm_b E + a; omega))]
      exact hS.2.1 q g1 g2, fun q hq => by
      rcases List.mem_append.mp hq with h | h
      · exact hS.2.2 q h
      · obtain ⟨z0, -, hz0⟩ := List.mem_map.mp h
        rw [← hz0]
        show mm_b E ≤ mm_b E + a
        omega⟩ _ hheap X'
  exact ⟨t2, step t2 a1, b1⟩
/-- behind a call -/
theorem mm_after {p : Program} {e : Env} {s : State} {m : MethodId} {args : Array Value} {below : List Frame} {meth : Method} {c : Code} {H : Heap} {locs : List Loc} {ls : Array Slot} {stk : List Value} {mc ms : Nat} {a : Array Value} {Post2 : mm_T}
    (C : mm_Cx E M p s m args meth c) (hY : F.1 s) (hL : mm_L E (mm_n M) lv ls) (hW : mm_W E n J G H) (hS : va_S (mm_A E) s.heap H locs)
    (hr : va_Run p (mm_l E) e (mm_R M) s m args below meth c H locs cs sl mc ms (F0 m pc ls stk) (st.map (mm_v E)) (mm_Q E Post2 a) (mm_A E))
    (k : ∀ r n' J' G', Post2 r n' J' G' → n ≤ n' ∧ mm_Go E M (pc + 3) lv (r.toList ++ st) n' J' G' (cs + mc) (sl + ms) F) :
    W p (mm_l E) e (mm_R M) s m args below meth c H locs cs sl (F.2 below args s) (F0 m pc ls stk) := by
  intro T hT X
  obtain ⟨v, st0, t, T', L, h0, X', hLf, e1, e2, ⟨r, n', J', G', hv, hp, hW', hkeep⟩, go⟩ := hr T hT X
  obtain ⟨hle, k'⟩ := k r n' J' G' hp
  have hv' : v = Option.map (mm_v E) r := Outcome.returned.inj hv
  subst hv'
  obtain ⟨t2, a1, b1⟩ := k' p e s m args below meth c T'.heap (locs ++ L) ls C hY hL (by rw [e1]; exact hW') ⟨by
      rw [e1, hW'.1]
      have := hS.1
      rw [hW.1] at this
      omega, fun q g1 g2 => by
      have hq : q < mm_b E := Nat.not_le.mp g2
      rw [e1, hkeep q hq, h0]
      exact hS.2.1 q g1 g2, fun q hq => by
      rcases List.mem_append.mp hq with h | h
      · exact hS.2.2 q h
      · exact hLf q h⟩ T' rfl X'
  refine ⟨t2, go t2 ?_, b1⟩
  cases r <;> exact a1
def mm_Lk (M2 : mm_M) (na : Nat) : Prop := Cond.code (mm_y M2) (mm_c M2) (mm_n M2) (mm_r M2) ∈ lw_t2 ∧ ((mm_y M2).cls ≠ "java/lang/invoke/MethodHandle" ∧ (mm_y M2).cls ≠ "java/lang/invoke/VarHandle" ∧ (parseMethodDescriptor (mm_y M2).desc).map (fun d => d.parameters.length) = some na) ∧ Cond.initialized (mm_y M2).cls ∈ lw_t2
def mm_LkV (M2 : mm_M) (na ci : Nat) : Prop := mm_Lk M2 na ∧ Cond.instanceMethod (mm_y M2) ∈ lw_t2 ∧ Cond.selects (mm_y M2).cls (mm_y M2) (mm_y M2) ∈ lw_t2 ∧ ∃ T N, mm_cl[ci]? = some ((mm_y M2).cls, T, N)
def mm_LkS (M2 : mm_M) (na : Nat) : Prop := mm_Lk M2 na ∧ Cond.static (mm_y M2) ∈ lw_t2
def mm_LkI (M2 : mm_M) (na : Nat) : Prop := mm_Lk M2 na ∧ Cond.instanceMethod (mm_y M2) ∈ lw_t2 ∧ (mm_y M2).name = "<init>" ∧ mm_r M2 = none
abbrev mm_Rm (M M2 : mm_M) : Prop := (mm_R M2).frames + 1 ≤ (mm_R M).frames ∧ 8 + (mm_n M2 + 11) + (mm_R M2).locals ≤ (mm_R M).locals
theorem mm_good (M2 : mm_M) (h : Cond.code (mm_y M2) (mm_c M2) (mm_n M2) (mm_r M2) ∈ lw_t2) : GoodIn lw_t2 (mm_w M2) := fun w hw => by
  have hm : w ∈ lw_t2 := (List.mem_cons.mp hw).elim (fun e => e ▸ h) id
  exact ⟨hm, good_of_word (List.mem_filter.mp hm).2⟩
theorem mm_callB {M2 : mm_M} {na idx : Nat} {args : Array Value} {s : State} (hk : mm_Lk M2 na) (hR : mm_Rm M M2) (hts : ∀ w ∈ lw_t2, w.before args s = true) (hl : Cond.methodLink (mm_y M).cls idx (mm_y M2) ∈ lw_t2) : CallB (mm_R M) s args (mm_y M).cls idx (mm_y M2) (mm_c M2) (mm_n M2) (mm_r M2) (mm_w M2) (mm_R M2) (mm_R M2).cells (mm_R M2).slots na :=
  callB_of na hts (mm_good M2 hk.1) rfl rfl rfl (hts _ hk.2.2) (hts _ hl) hk.2.1 hR
theorem mm_callV {M2 : mm_M} {na idx ci a : Nat} (as : List Value) {Post2 : mm_T} (hl : Cond.methodLink (mm_y M).cls idx (mm_y M2) ∈ lw_t2) (hk : mm_LkV M2 na ci) (hR : mm_Rm M M2) (h : mm_Met E M2 (.ref a :: as) n J G Post2) (hs : mm_SH a = .inl ci) (ha : a < n) (hna : as.length = na) (hst : ((st.map (mm_v E)).map fun v => v.category).sum ≤ 8) (h1 : cs + (mm_R M2).cells ≤ (mm_R M).cells) (h2 : sl + (mm_R M2).slots ≤ (mm_R M).slots) (hc : mm_d M pc = some (.invokevirtual idx, 3))
    (k : ∀ r n' J' G', Post2 r n' J' G' → n ≤ n' ∧ mm_Go E M (pc + 3) lv (r.toList ++ st) n' J' G' (cs + (mm_R M2).cells) (sl + (mm_R M2).slots) F) : mm_Go E M pc lv (as.reverse ++ .ref a :: st) n J G cs sl F := by
  intro p e s m args below meth c H locs ls C hY hL hW hS
  obtain ⟨hx, hb, hr, hml, hown, hlk, hts, hnm, ⟨hK, hX9⟩, hbs, hok⟩ := id C
  obtain ⟨hk0, hin, hsel, T, N, hcl⟩ := hk
  obtain ⟨cellB, g1, g2, g3, -⟩ := mm_obj hW ha hs
  refine mm_after (pc := pc) (mc := (mm_R M2).cells) (ms := (mm_R M2).slots) (Post2 := Post2) (a := (Value.ref (mm_b E + a) :: as.map (mm_v E)).toArray) C hY hL hW hS ?_ k
  refine va_runV (C := (mm_y M2).cls) (As := as.map (mm_v E)) (b := mm_b E + a) (rest := st.map (mm_v E)) ⟨hx, hb, hml, hown, hts⟩ h ⟨mm_callB hk0 hR hts hl, hts _ hin, hts _ hsel⟩ ⟨mm_blind, ⟨cellB, g1, by rw [g3]; rfl, by rw [g2]; exact (hK.1 ci _ hcl).2.1⟩, fun U hU hw => ⟨rfl, by rw [hU]; exact hW, mm_K.warm hw ⟨hK, hX9⟩⟩⟩ rfl (by rw [List.length_map]; exact hna) hL.1 (by simp [List.map_append, List.map_reverse, mm_v]) (lv_room hst) (hok.1 _ _ _ hc) ⟨h1, h2⟩
theorem mm_callS {M2 : mm_M} {na idx : Nat} (as : List Value) {Post2 : mm_T} (hl : Cond.methodLink (mm_y M).cls idx (mm_y M2) ∈ lw_t2) (hk : mm_LkS M2 na) (hR : mm_Rm M M2) (h : mm_Met E M2 as n J G Post2) (hna : as.length = na) (hst : ((st.map (mm_v E)).map fun v => v.category).sum ≤ 8) (h1 : cs + (mm_R M2).cells ≤ (mm_R M).cells) (h2 : sl + (mm_R M2).slots ≤ (mm_R M).slots) (hc : mm_d M pc = some (.invokestatic idx, 3))
    (k : ∀ r n' J' G', Post2 r n' J' G' → n ≤ n' ∧ mm_Go E M (pc + 3) lv (r.toList ++ st) n' J' G' (cs + (mm_R M2).cells) (sl + (mm_R M2).slots) F) : mm_Go E M pc lv (as.reverse ++ st) n J G cs sl F := by
  intro p e s m args below meth c H locs ls C hY hL hW hS
  obtain ⟨hx, hb, hr, hml, hown, hlk, hts, hnm, ⟨hK, hX9⟩, hbs, hok⟩ := id C
  obtain ⟨hk0, hstt⟩ := hk
  refine mm_after (pc := pc) (mc := (mm_R M2).cells) (ms := (mm_R M2).slots) (Post2 := Post2) (a := (as.map (mm_v E)).toArray) C hY hL hW hS ?_ k
  refine va_runS (As := as.map (mm_v E)) (rest := st.map (mm_v E)) ⟨hx, hb, hml, hown, hts⟩ h ⟨mm_callB hk0 hR hts hl, hts _ hstt⟩ ⟨mm_blind, fun U hU hw => ⟨rfl, by rw [hU]; exact hW, mm_K.warm hw ⟨hK, hX9⟩⟩⟩ rfl (by rw [List.length_map]; exact hna) hL.1 (by simp [List.map_append, List.map_reverse]) (lv_room hst) (hok.1 _ _ _ hc) ⟨h1, h2⟩
theorem mm_callI {M2 : mm_M} {na idx a : Nat} (as : List Value) {Post2 : mm_T} (hl : Cond.methodLink (mm_y M).cls idx (mm_y M2) ∈ lw_t2) (hk : mm_LkI M2 na) (hR : mm_Rm M M2) (h : mm_Met E M2 (.ref a :: as) n J G Post2) (hna : as.length = na) (hst : ((st.map (mm_v E)).map fun v => v.category).sum ≤ 8) (h1 : cs + (mm_R M2).cells ≤ (mm_R M).cells) (h2 : sl + (mm_R M2).slots ≤ (mm_R M).slots) (hc : mm_d M pc = some (.invokespecial idx, 3))
    (k : ∀ r n' J' G', Post2 r n' J' G' → n ≤ n' ∧ mm_Go E M (pc + 3) lv (r.toList ++ st) n' J' G' (cs + (mm_R M2).cells) (sl + (mm_R M2).slots) F) : mm_Go E M pc lv (as.reverse ++ .ref a :: st) n J G cs sl F := by
  intro p e s m args below meth c H locs ls C hY hL hW hS
  obtain ⟨hx, hb, hr, hml, hown, hlk, hts, hnm, ⟨hK, hX9⟩, hbs, hok⟩ := id C
  obtain ⟨hk0, hin, hy, hrt⟩ := hk
  have hB := mm_callB (idx := idx) hk0 hR hts hl
  rw [hrt] at hB
  refine mm_after (pc := pc) (mc := (mm_R M2).cells) (ms := (mm_R M2).slots) (Post2 := Post2) (a := (Value.ref (mm_b E + a) :: as.map (mm_v E)).toArray) C hY hL hW hS ?_ k
  refine va_runI (As := as.map (mm_v E)) (b := mm_b E + a) (rest := st.map (mm_v E)) ⟨hx, hb, hml, hown, hts⟩ h ⟨hB, hy, hts _ hin⟩ ⟨mm_blind, fun U hU hw => ⟨rfl, by rw [hU]; exact hW, mm_K.warm hw ⟨hK, hX9⟩⟩⟩ rfl (by rw [List.length_map]; exact hna) hL.1 (by simp [List.map_append, List.map_reverse, mm_v]) (lv_room hst) (hok.1 _ _ _ hc) ⟨h1, h2⟩
theorem mm_callN {M2 : mm_M} {na idx : Nat} {host : String} (as : List Value) {Post2 : mm_T} (hl : ∀ s, mm_X s → va_Nw (.methodLinkNest (mm_y M).cls idx (mm_y M2) host) s) (hk : mm_LkS M2 na) (hR : mm_Rm M M2) (h : mm_Met E M2 as n J G Post2) (hna : as.length = na) (hst : ((st.map (mm_v E)).map fun v => v.category).sum ≤ 8) (h1 : cs + (mm_R M2).cells ≤ (mm_R M).cells) (h2 : sl + (mm_R M2).slots ≤ (mm_R M).slots) (hc : mm_d M pc = some (.invokestatic idx, 3))
    (k : ∀ r n' J' G', Post2 r n' J' G' → n ≤ n' ∧ mm_Go E M (pc + 3) lv (r.toList ++ st) n' J' G' (cs + (mm_R M2).cells) (sl + (mm_R M2).slots) F) : mm_Go E M pc lv (as.reverse ++ st) n J G cs sl F := by
  intro p e s m args below meth c H locs ls C hY hL hW hS
  obtain ⟨hx, hb, hr, hml, hown, hlk, hts, hnm, ⟨hK, hX9⟩, hbs, hok⟩ := id C
  obtain ⟨hk0, hstt⟩ := hk
  refine mm_after (pc := pc) (mc := (mm_R M2).cells) (ms := (mm_R M2).slots) (Post2 := Post2) (a := (as.map (mm_v E)).toArray) C hY hL hW hS ?_ k
  refine va_runSN (As := as.map (mm_v E)) (rest := st.map (mm_v E)) ⟨hx, hb, hml, hown, hts⟩ h ⟨va_cnB na hts (mm_good M2 hk0.1) rfl rfl rfl (hl s hX9) (hts _ hk0.2.2) hk0.2.1 hR, hts _ hstt, trivial⟩ ⟨mm_blind, fun U hU hw => ⟨rfl, by rw [hU]; exact hW, mm_K.warm hw ⟨hK, hX9⟩⟩⟩ rfl (by rw [List.length_map]; exact hna) hL.1 (by simp [List.map_append, List.map_reverse]) (lv_room hst) (hok.1 _ _ _ hc) ⟨h1, h2⟩
/-- calls of methods whose end is known outright -/
theorem mm_isV {M2 : mm_M} {na idx ci a n' : Nat} (as : List Value) {r : Option Value} {J' : mm_J} {G' : mm_G} (hl : Cond.methodLink (mm_y M).cls idx (mm_y M2) ∈ lw_t2) (hk : mm_LkV M2 na ci) (hR : mm_Rm M M2) (h : mm_Ret E M2 (.ref a :: as) n J G r n' J' G') (hs : mm_SH a = .inl ci) (ha : a < n) (hna : as.length = na) (hst : ((st.map (mm_v E)).map fun v => v.category).sum ≤ 8) (h1 : cs + (mm_R M2).cells ≤ (mm_R M).cells) (h2 : sl + (mm_R M2).slots ≤ (mm_R M).slots) (hc : mm_d M pc = some (.invokevirtual idx, 3)) (hle : n ≤ n')
    (k : mm_Go E M (pc + 3) lv (r.toList ++ st) n' J' G' (cs + (mm_R M2).cells) (sl + (mm_R M2).slots) F) : mm_Go E M pc lv (as.reverse ++ .ref a :: st) n J G cs sl F :=
  mm_callV as hl hk hR h hs ha hna hst h1 h2 hc (fun _ _ _ _ q => by obtain ⟨rfl, rfl, rfl, rfl⟩ := q; exact ⟨hle, k⟩)
theorem mm_isS {M2 : mm_M} {na idx n' : Nat} (as : List Value) {r : Option Value} {J' : mm_J} {G' : mm_G} (hl : Cond.methodLink (mm_y M).cls idx (mm_y M2) ∈ lw_t2) (hk : mm_LkS M2 na) (hR : mm_Rm M M2) (h : mm_Ret E M2 as n J G r n' J' G') (hna : as.length = na) (hst : ((st.map (mm_v E)).map fun v => v.category).sum ≤ 8) (h1 : cs + (mm_R M2).cells ≤ (mm_R M).cells) (h2 : sl + (mm_R M2).slots ≤ (mm_R M).slots) (hc : mm_d M pc = some (.invokestatic idx, 3)) (hle : n ≤ n')
    (k : mm_Go E M (pc + 3) lv (r.toList ++ st) n' J' G' (cs + (mm_R M2).cells) (sl + (mm_R M2).slots) F) : mm_Go E M pc lv (as.reverse ++ st) n J G cs sl F :=
  mm_callS as hl hk hR h hna hst h1 h2 hc (fun _ _ _ _ q => by obtain ⟨rfl, rfl, rfl, rfl⟩ := q; exact ⟨hle, k⟩)
theorem mm_isI {M2 : mm_M} {na idx a n' : Nat} (as : List Value) {r : Option Value} {J' : mm_J} {G' : mm_G} (hl : Cond.methodLink (mm_y M).cls idx (mm_y M2) ∈ lw_t2) (hk : mm_LkI M2 na) (hR : mm_Rm M M2) (h : mm_Ret E M2 (.ref a :: as) n J G r n' J' G') (hna : as.length = na) (hst : ((st.map (mm_v E)).map fun v => v.category).sum ≤ 8) (h1 : cs + (mm_R M2).cells ≤ (mm_R M).cells) (h2 : sl + (mm_R M2).slots ≤ (mm_R M).slots) (hc : mm_d M pc = some (.invokespecial idx, 3)) (hle : n ≤ n')
    (k : mm_Go E M (pc + 3) lv (r.toList ++ st) n' J' G' (cs + (mm_R M2).cells) (sl + (mm_R M2).slots) F) : mm_Go E M pc lv (as.reverse ++ .ref a :: st) n J G cs sl F :=
  mm_callI as hl hk hR h hna hst h1 h2 hc (fun _ _ _ _ q => by obtain ⟨rfl, rfl, rfl, rfl⟩ := q; exact ⟨hle, k⟩)

theorem mm_aload_nS {i : Fin 4} {z : Nat} (hc : mm_d M pc = some (.aload_n i, 1)) (hl : lv[i.val]? = some (some (.retAddr z))) (k : mm_Go E M (pc + 1) lv (.retAddr z :: st) n J G cs sl F) : mm_Go E M pc lv st n J G cs sl F := by
  intro p e s m args below meth c H locs ls C hY hL hW hS
  obtain ⟨hx, hb, hr, hml, hown, hlk, hts, hnm, ⟨hK, hX9⟩, hbs, hok⟩ := id C
  exact lv_aload_n (x := mm_sc E) hx hb (hok.1 _ _ _ hc) rfl (hL.2.2 _ _ hl).2 (k p e s m args below meth c H locs ls C hY hL hW hS)
theorem mm_sld {L z : Nat} {xs : Nat → Int32} {i : Int32} (hF : ∀ s, F.1 s → va_X (mm_sc E) L xs s s.heap ∧ mm_sc E < mm_b E) (hi : vp_in i L) (hc : mm_d M pc = some (.iaload, 1)) (k : mm_Go E M (pc + 1) lv (.int (xs i.toNatClampNeg) :: st) n J G cs sl F) : mm_Go E M pc lv (.int i :: .retAddr z :: st) n J G cs sl F := by
  intro p e s m args below meth c H locs ls C hY hL hW hS
  obtain ⟨hx, hb, hr, hml, hown, hlk, hts, hnm, ⟨hK, hX9⟩, hbs, hok⟩ := id C
  obtain ⟨hX, hsc⟩ := hF s hY
  exact va_sld hx hb hX (Nat.lt_of_lt_of_le hsc hbs) (A := mm_A E) (Nat.not_le.mpr hsc) hS hi (hok.1 _ _ _ hc) (k p e s m args below meth c H locs ls C hY hL hW hS)
theorem mm_slen {L z : Nat} {xs : Nat → Int32} (hF : ∀ s, F.1 s → va_X (mm_sc E) L xs s s.heap ∧ mm_sc E < mm_b E) (hc : mm_d M pc = some (.arraylength, 1)) (k : mm_Go E M (pc + 1) lv (.int (Int32.ofNat L) :: st) n J G cs sl F) : mm_Go E M pc lv (.retAddr z :: st) n J G cs sl F := by
  intro p e s m args below meth c H locs ls C hY hL hW hS
  obtain ⟨hx, hb, hr, hml, hown, hlk, hts, hnm, ⟨hK, hX9⟩, hbs, hok⟩ := id C
  obtain ⟨hX, hsc⟩ := hF s hY
  exact va_slen hx hb hX (Nat.lt_of_lt_of_le hsc hbs) (A := mm_A E) (Nat.not_le.mpr hsc) hS (hok.1 _ _ _ hc) (k p e s m args below meth c H locs ls C hY hL hW hS)

/-! rows for numbers that are nI of a natural number -/
theorem mm_iaddN {a b : Nat} (hc : mm_d M pc = some (.iadd, 1)) (k : mm_Go E M (pc + 1) lv (.int (nI (a + b)) :: st) n J G cs sl F) : mm_Go E M pc lv (.int (nI b) :: .int (nI a) :: st) n J G cs sl F := mm_iadd hc (by rw [nI_add]; exact k)
theorem mm_isubN {a b : Nat} (hc : mm_d M pc = some (.isub, 1)) (h : b ≤ a) (k : mm_Go E M (pc + 1) lv (.int (nI (a - b)) :: st) n J G cs sl F) : mm_Go E M pc lv (.int (nI b) :: .int (nI a) :: st) n J G cs sl F := mm_isub hc (by rw [pk_sub h]; exact k)
theorem mm_imulN {a b : Nat} (hc : mm_d M pc = some (.imul, 1)) (k : mm_Go E M (pc + 1) lv (.int (nI (a * b)) :: st) n J G cs sl F) : mm_Go E M pc lv (.int (nI b) :: .int (nI a) :: st) n J G cs sl F := mm_imul hc (by rw [pk_mul]; exact k)
theorem mm_idivN {a b : Nat} (hc : mm_d M pc = some (.idiv, 1)) (ha : a < 2 ^ 31) (h0 : 0 < b) (hb : b < 2 ^ 31) (k : mm_Go E M (pc + 1) lv (.int (nI (a / b)) :: st) n J G cs sl F) : mm_Go E M pc lv (.int (nI b) :: .int (nI a) :: st) n J G cs sl F := mm_idiv hc (nI_ne0 h0 hb) (by rw [pk_div ha h0 hb]; exact k)
theorem mm_iremN {a b : Nat} (hc : mm_d M pc = some (.irem, 1)) (ha : a < 2 ^ 31) (h0 : 0 < b) (hb : b < 2 ^ 31) (k : mm_Go E M (pc + 1) lv (.int (nI (a % b)) :: st) n J G cs sl F) : mm_Go E M pc lv (.int (nI b) :: .int (nI a) :: st) n J G cs sl F := mm_irem hc (nI_ne0 h0 hb) (by rw [pk_rem ha h0 hb]; exact k)
theorem mm_iincN {i a b : Nat} {z : Int} (hc : mm_d M pc = some (.iinc i z, 3)) (hl : lv[i]? = some (some (.int (nI a)))) (hv : nI a + Int32.ofInt z = nI b) (hn : i < mm_n M) (k : mm_Go E M (pc + 3) (lv.set i (some (.int (nI b)))) st n J G cs sl F) : mm_Go E M pc lv st n J G cs sl F := mm_iinc hc hl hv hn k
theorem mm_inc1 (a : Nat) : nI a + Int32.ofInt 1 = nI (a + 1) := nI_1 a
theorem mm_dec1 {a : Nat} (h : 0 < a) : nI a + Int32.ofInt (-1) = nI (a - 1) := sb_m1 h
theorem mm_rdN {a t len q : Nat} {x : Int32} (hs : mm_SH a = .inr (t, len)) (ht : t < mm_ty.length) (hp : mm_ty.getD t .int = .int) (ha : a < n) (hq : q < len) (h31 : len < 2 ^ 31) (hc : mm_d M pc = some (.iaload, 1)) (hv : J a q = x) (k : mm_Go E M (pc + 1) lv (.int x :: st) n J G cs sl F) : mm_Go E M pc lv (.int (nI q) :: .ref a :: st) n J G cs sl F :=
  mm_rdI hs ht hp ha (vp_in_nI hq h31) hc (by rw [nI_clamp (by omega), hv]; exact k)
theorem mm_rzN {a t len q : Nat} {x : Int32} (hs : mm_SH a = .inr (t, len)) (ht : t < mm_ty.length) (hp : mm_ty.getD t .int = .boolean) (ha : a < n) (hq : q < len) (h31 : len < 2 ^ 31) (hc : mm_d M pc = some (.baload, 1)) (hv : J a q = x) (k : mm_Go E M (pc + 1) lv (.int x :: st) n J G cs sl F) : mm_Go E M pc lv (.int (nI q) :: .ref a :: st) n J G cs sl F :=
  mm_rdZ hs ht hp ha (vp_in_nI hq h31) hc (by rw [nI_clamp (by omega), hv]; exact k)
theorem mm_rrN {a t len b q : Nat} (hs : mm_SH a = .inr (t, len)) (ht : t < mm_ty.length) (hp : (mm_ty.getD t .int).isReference = true) (hp2 : mm_rt t = true) (ha : a < n) (hq : q < len) (h31 : len < 2 ^ 31) (hg : G a q = some b) (hc : mm_d M pc = some (.aaload, 1)) (k : mm_Go E M (pc + 1) lv (.ref b :: st) n J G cs sl F) : mm_Go E M pc lv (.int (nI q) :: .ref a :: st) n J G cs sl F :=
  mm_rdR hs ht hp hp2 ha (vp_in_nI hq h31) (by rw [nI_clamp (by omega)]; exact hg) hc k
theorem mm_wrN {a t len q : Nat} {x : Int32} (hs : mm_SH a = .inr (t, len)) (ht : t < mm_ty.length) (hp : mm_ty.getD t .int = .int) (ha : a < n) (hq : q < len) (h31 : len < 2 ^ 31) (hc : mm_d M pc = some (.iastore, 1)) (k : mm_Go E M (pc + 1) lv st n (mm_set J a q x) G cs sl F) : mm_Go E M pc lv (.int x :: .int (nI q) :: .ref a :: st) n J G cs sl F :=
  mm_wrI hs ht hp ha (vp_in_nI hq h31) hc (by rw [nI_clamp (by omega)]; exact k)
theorem mm_wzN {a t len q : Nat} {x : Int32} (hs : mm_SH a = .inr (t, len)) (ht : t < mm_ty.length) (hp : mm_ty.getD t .int = .boolean) (ha : a < n) (hq : q < len) (h31 : len < 2 ^ 31) (hn : narrow .boolean (.int x) = .int x) (hc : mm_d M pc = some (.bastore, 1)) (k : mm_Go E M (pc + 1) lv st n (mm_set J a q x) G cs sl F) : mm_Go E M pc lv (.int x :: .int (nI q) :: .ref a :: st) n J G cs sl F :=
  mm_wrZ hs ht hp ha (vp_in_nI hq h31) hn hc (by rw [nI_clamp (by omega)]; exact k)
theorem mm_wqN {a t len v ci q : Nat} {C0 : String} {T : u_T} {N : Nat} (hs : mm_SH a = .inr (t, len)) (ht : t < mm_ty.length) (hp : mm_ty.getD t .int = .object C0) (ha : a < n) (hq : q < len) (h31 : len < 2 ^ 31) (hv : v < n) (hsv : mm_SH v = .inl ci) (hcl : mm_cl[ci]? = some (C0, T, N)) (hc : mm_d M pc = some (.aastore, 1)) (k : mm_Go E M (pc + 1) lv st n J (mm_sg G a q (some v)) cs sl F) : mm_Go E M pc lv (.ref v :: .int (nI q) :: .ref a :: st) n J G cs sl F :=
  mm_wrR hs ht hp ha (vp_in_nI hq h31) hv hsv hcl hc (by rw [nI_clamp (by omega)]; exact k)
theorem mm_icmp_eqN {a b : Nat} {off : Int} {tgt : Nat} (hc : mm_d M pc = some (.if_icmp .eq off, 3)) (ht : (pc : Int) + off = (tgt : Int)) (ha : a < 2 ^ 31) (hb : b < 2 ^ 31) (kt : a = b → mm_Go E M (tgt) lv (st) n J G cs sl F) (kf : ¬ a = b → mm_Go E M (pc + 3) lv (st) n J G cs sl F) : mm_Go E M (pc) lv (.int (nI b) :: .int (nI a) :: st) n J G cs sl F :=
  mm_icmp_eq hc ht (fun h => kt ((nI_eq ha hb).mp h)) (fun h => kf (fun q => h ((nI_eq ha hb).mpr q)))
theorem mm_icmp_neN {a b : Nat} {off : Int} {tgt : Nat} (hc : mm_d M pc = some (.if_icmp .ne off, 3)) (ht : (pc : Int) + off = (tgt : Int)) (ha : a < 2 ^ 31) (hb : b < 2 ^ 31) (kt : ¬ a = b → mm_Go E M (tgt) lv (st) n J G cs sl F) (kf : a = b → mm_Go E M (pc + 3) lv (st) n J G cs sl F) : mm_Go E M (pc) lv (.int (nI b) :: .int (nI a) :: st) n J G cs sl F :=
  mm_icmp_ne hc ht (fun h => kt (fun q => h ((nI_eq ha hb).mpr q))) (fun h => kf ((nI_eq ha hb).mp h))
theorem mm_icmp_ltN {a b : Nat} {off : Int} {tgt : Nat} (hc : mm_d M pc = some (.if_icmp .lt off, 3)) (ht : (pc : Int) + off = (tgt : Int)) (ha : a < 2 ^ 31) (hb : b < 2 ^ 31) (kt : a < b → mm_Go E M (tgt) lv (st) n J G cs sl F) (kf : b ≤ a → mm_Go E M (pc + 3) lv (st) n J G cs sl F) : mm_Go E M (pc) lv (.int (nI b) :: .int (nI a) :: st) n J G cs sl F :=
  mm_icmp_lt hc ht (fun h => kt ((nI_ltI ha hb).mp h)) (fun h => kf (Nat.not_lt.mp fun q => h ((nI_ltI ha hb).mpr q)))
theorem mm_icmp_geN {a b : Nat} {off : Int} {tgt : Nat} (hc : mm_d M pc = some (.if_icmp .ge off, 3)) (ht : (pc : Int) + off = (tgt : Int)) (ha : a < 2 ^ 31) (hb : b < 2 ^ 31) (kt : b ≤ a → mm_Go E M (tgt) lv (st) n J G cs sl F) (kf : a < b → mm_Go E M (pc + 3) lv (st) n J G cs sl F) : mm_Go E M (pc) lv (.int (nI b) :: .int (nI a) :: st) n J G cs sl F :=
  mm_icmp_ge hc ht (fun h => kt ((nI_leI hb ha).mp h)) (fun h => kf (Nat.not_le.mp fun q => h ((nI_leI hb ha).mpr q)))
theorem mm_icmp_gtN {a b : Nat} {off : Int} {tgt : Nat} (hc : mm_d M pc = some (.if_icmp .gt off, 3)) (ht : (pc : Int) + off = (tgt : Int)) (ha : a < 2 ^ 31) (hb : b < 2 ^ 31) (kt : b < a → mm_Go E M (tgt) lv (st) n J G cs sl F) (kf : a ≤ b → mm_Go E M (pc + 3) lv (st) n J G cs sl F) : mm_Go E M (pc) lv (.int (nI b) :: .int (nI a) :: st) n J G cs sl F :=
  mm_icmp_gt hc ht (fun h => kt ((nI_ltI hb ha).mp h)) (fun h => kf (Nat.not_lt.mp fun q => h ((nI_ltI hb ha).mpr q)))
theorem mm_icmp_leN {a b : Nat} {off : Int} {tgt : Nat} (hc : mm_d M pc = some (.if_icmp .le off, 3)) (ht : (pc : Int) + off = (tgt : Int)) (ha : a < 2 ^ 31) (hb : b < 2 ^ 31) (kt : a ≤ b → mm_Go E M (tgt) lv (st) n J G cs sl F) (kf : b < a → mm_Go E M (pc + 3) lv (st) n J G cs sl F) : mm_Go E M (pc) lv (.int (nI b) :: .int (nI a) :: st) n J G cs sl F :=
  mm_icmp_le hc ht (fun h => kt ((nI_leI ha hb).mp h)) (fun h => kf (Nat.not_le.mp fun q => h ((nI_leI ha hb).mpr q)))
theorem mm_if_eqN {a : Nat} {off : Int} {tgt : Nat} (hc : mm_d M pc = some (.ifCond .eq off, 3)) (ht : (pc : Int) + off = (tgt : Int)) (ha : a < 2 ^ 31) (kt : a = 0 → mm_Go E M (tgt) lv (st) n J G cs sl F) (kf : ¬ a = 0 → mm_Go E M (pc + 3) lv (st) n J G cs sl F) : mm_Go E M (pc) lv (.int (nI a) :: st) n J G cs sl F :=
  mm_if_eq hc ht (fun h => kt ((nI_eq ha (show (0 : Nat) < 2 ^ 31 by decide)).mp h)) (fun h => kf (fun q => h ((nI_eq ha (show (0 : Nat) < 2 ^ 31 by decide)).mpr q)))
theorem mm_if_neN {a : Nat} {off : Int} {tgt : Nat} (hc : mm_d M pc = some (.ifCond .ne off, 3)) (ht : (pc : Int) + off = (tgt : Int)) (ha : a < 2 ^ 31) (kt : ¬ a = 0 → mm_Go E M (tgt) lv (st) n J G cs sl F) (kf : a = 0 → mm_Go E M (pc + 3) lv (st) n J G cs sl F) : mm_Go E M (pc) lv (.int (nI a) :: st) n J G cs sl F :=
  mm_if_ne hc ht (fun h => kt (fun q => h ((nI_eq ha (show (0 : Nat) < 2 ^ 31 by decide)).mpr q))) (fun h => kf ((nI_eq ha (show (0 : Nat) < 2 ^ 31 by decide)).mp h))
theorem mm_if_gtN {a : Nat} {off : Int} {tgt : Nat} (hc : mm_d M pc = some (.ifCond .gt off, 3)) (ht : (pc : Int) + off = (tgt : Int)) (ha : a < 2 ^ 31) (kt : 0 < a → mm_Go E M (tgt) lv (st) n J G cs sl F) (kf : a = 0 → mm_Go E M (pc + 3) lv (st) n J G cs sl F) : mm_Go E M (pc) lv (.int (nI a) :: st) n J G cs sl F :=
  mm_if_gt hc ht (fun h => kt ((nI_ltI (show (0 : Nat) < 2 ^ 31 by decide) ha).mp h)) (fun h => kf (Nat.le_zero.mp (Nat.not_lt.mp fun q => h ((nI_ltI (show (0 : Nat) < 2 ^ 31 by decide) ha).mpr q))))
theorem mm_if_leN {a : Nat} {off : Int} {tgt : Nat} (hc : mm_d M pc = some (.ifCond .le off, 3)) (ht : (pc : Int) + off = (tgt : Int)) (ha : a < 2 ^ 31) (kt : a = 0 → mm_Go E M (tgt) lv (st) n J G cs sl F) (kf : 0 < a → mm_Go E M (pc + 3) lv (st) n J G cs sl F) : mm_Go E M (pc) lv (.int (nI a) :: st) n J G cs sl F :=
  mm_if_le hc ht (fun h => kt (Nat.le_zero.mp ((nI_leI ha (show (0 : Nat) < 2 ^ 31 by decide)).mp h))) (fun h => kf (Nat.not_le.mp fun q => h ((nI_leI ha (show (0 : Nat) < 2 ^ 31 by decide)).mpr q)))
theorem mm_if_ltN {a : Nat} {off : Int} {tgt : Nat} (hc : mm_d M pc = some (.ifCond .lt off, 3)) (ht : (pc : Int) + off = (tgt : Int)) (ha : a < 2 ^ 31) (k : mm_Go E M (pc + 3) lv (st) n J G cs sl F) : mm_Go E M (pc) lv (.int (nI a) :: st) n J G cs sl F := mm_if_lt hc ht (fun h => absurd h (nI_pos ha)) (fun _ => k)
theorem mm_if_geN {a : Nat} {off : Int} {tgt : Nat} (hc : mm_d M pc = some (.ifCond .ge off, 3)) (ht : (pc : Int) + off = (tgt : Int)) (ha : a < 2 ^ 31) (k : mm_Go E M (tgt) lv (st) n J G cs sl F) : mm_Go E M (pc) lv (.int (nI a) :: st) n J G cs sl F := mm_if_ge hc ht (fun _ => k) (fun h => absurd (nI_pos' ha) h)
end MMR
end
section
def qT_init_t : List (Nat × Instr × Nat) := [(0, .aload_n 0, 1), (1, .invokespecial 3, 3), (4, .aload_n 0, 1), (5, .new 9, 3), (8, .dup, 1), (9, .invokespecial 11, 3), (12, .putfield 12, 3), (15, .aload_n 0, 1), (16, .iconst 5, 1), (17, .newarray .int, 2), (19, .putfield 18, 3), (22, .aload_n 0, 1), (23, .iconst 5, 1), (24, .newarray .boolean, 2), (26, .putfield 22, 3), (29, .iconst 0, 1), (30, .istore_n 1, 1), (31, .iload_n 1, 1), (32, .aload_n 0, 1), (33, .getfield 18, 3), (36, .arraylength, 1), (37, .if_icmp .ge 17, 3), (40, .aload_n 0, 1), (41, .getfield 18, 3), (44, .iload_n 1, 1), (45, .bipush (-2), 2), (47, .iastore, 1), (48, .iinc 1 1, 3), (51, .goto (-20), 3), (54, .return_, 1)]
def qT_init : mm_M := (⟨"EditorCore$Text", "<init>", "()V"⟩, prog_7_method_1_code, mm_cd qT_init_t, 2, none, { frames := 2, cells := 4, slots := 112, locals := 76 }, mm_fl fl_T)
theorem qT_init_ok : mm_ok qT_init := ⟨mm_cd_ok qT_init_t (by decide +kernel), mm_fl_ok fl_T fl_T_ok⟩
theorem qT_init_k : mm_LkI qT_init 0 := ⟨⟨wd_24, ⟨by decide +kernel, by decide +kernel, by decide +kernel⟩, wd_2⟩, wd_23, rfl, rfl⟩
def qL_init_t : List (Nat × Instr × Nat) := [(0, .aload_n 0, 1), (1, .invokespecial 3, 3), (4, .aload_n 0, 1), (5, .bipush 100, 2), (7, .newarray .int, 2), (9, .putfield 9, 3), (12, .return_, 1)]
def qL_init : mm_M := (⟨"EditorCore$Letters", "<init>", "()V"⟩, prog_6_method_1_code, mm_cd qL_init_t, 1, none, { frames := 1, cells := 1, slots := 100, locals := 38 }, mm_fl fl_L)
theorem qL_init_ok : mm_ok qL_init := ⟨mm_cd_ok qL_init_t (by decide +kernel), mm_fl_ok fl_L fl_L_ok⟩
theorem qL_init_k : mm_LkI qL_init 0 := ⟨⟨wd_30, ⟨by decide +kernel, by decide +kernel, by decide +kernel⟩, wd_3⟩, wd_29, rfl, rfl⟩
def qK_init_t : List (Nat × Instr × Nat) := [(0, .aload_n 0, 1), (1, .invokespecial 1, 3), (4, .aload_n 0, 1), (5, .iconst 4, 1), (6, .anewarray 9, 3), (9, .putfield 11, 3), (12, .iconst 0, 1), (13, .istore_n 1, 1), (14, .iload_n 1, 1), (15, .iconst 4, 1), (16, .if_icmp .ge 22, 3), (19, .aload_n 0, 1), (20, .getfield 11, 3), (23, .iload_n 1, 1), (24, .new 9, 3), (27, .dup, 1), (28, .invokespecial 15, 3), (31, .aastore, 1), (32, .iinc 1 1, 3), (35, .goto (-21), 3), (38, .return_, 1)]
def qK_init : mm_M := (⟨"EditorCore$Kills", "<init>", "()V"⟩, prog_5_method_1_code, mm_cd qK_init_t, 2, none, { frames := 2, cells := 9, slots := 412, locals := 76 }, mm_fl fl_K)
theorem qK_init_ok : mm_ok qK_init := ⟨mm_cd_ok qK_init_t (by decide +kernel), mm_fl_ok fl_K fl_K_ok⟩
theorem qK_init_k : mm_LkI qK_init 0 := ⟨⟨wd_71, ⟨by decide +kernel, by decide +kernel, by decide +kernel⟩, wd_4⟩, wd_70, rfl, rfl⟩
def qH_init_t : List (Nat × Instr × Nat) := [(0, .aload_n 0, 1), (1, .invokespecial 3, 3), (4, .aload_n 0, 1), (5, .bipush 20, 2), (7, .newarray .int, 2), (9, .putfield 11, 3), (12, .aload_n 0, 1), (13, .bipush 20, 2), (15, .newarray .int, 2), (17, .putfield 15, 3), (20, .aload_n 0, 1), (21, .bipush 20, 2), (23, .anewarray 18, 3), (26, .putfield 20, 3), (29, .iconst 0, 1), (30, .istore_n 1, 1), (31, .iload_n 1, 1), (32, .bipush 20, 2), (34, .if_icmp .ge 22, 3), (37, .aload_n 0, 1), (38, .getfield 20, 3), (41, .iload_n 1, 1), (42, .new 18, 3), (45, .dup, 1), (46, .invokespecial 24, 3), (49, .aastore, 1), (50, .iinc 1 1, 3), (53, .goto (-22), 3), (56, .return_, 1)]
def qH_init : mm_M := (⟨"EditorCore$History", "<init>", "()V"⟩, prog_3_method_1_code, mm_cd qH_init_t, 2, none, { frames := 2, cells := 43, slots := 2100, locals := 76 }, mm_fl fl_H)
theorem qH_init_ok : mm_ok qH_init := ⟨mm_cd_ok qH_init_t (by decide +kernel), mm_fl_ok fl_H fl_H_ok⟩
theorem qH_init_k : mm_LkI qH_init 0 := ⟨⟨wd_89, ⟨by decide +kernel, by decide +kernel, by decide +kernel⟩, wd_5⟩, wd_88, rfl, rfl⟩
def qY_init_t : List (Nat × Instr × Nat) := [(0, .aload_n 0, 1), (1, .invokespecial 5, 3), (4, .aload_n 0, 1), (5, .bipush 24, 2), (7, .newarray .int, 2), (9, .putfield 11, 3), (12, .aload_n 0, 1), (13, .bipush 24, 2), (15, .newarray .int, 2), (17, .putfield 15, 3), (20, .return_, 1)]
def qY_init : mm_M := (⟨"EditorCore$Keys", "<init>", "()V"⟩, prog_4_method_1_code, mm_cd qY_init_t, 1, none, { frames := 1, cells := 2, slots := 48, locals := 38 }, mm_fl fl_Y)
theorem qY_init_ok : mm_ok qY_init := ⟨mm_cd_ok qY_init_t (by decide +kernel), mm_fl_ok fl_Y fl_Y_ok⟩
theorem qY_init_k : mm_LkI qY_init 0 := ⟨⟨wd_114, ⟨by decide +kernel, by decide +kernel, by decide +kernel⟩, wd_6⟩, wd_113, rfl, rfl⟩
def qV_init_t : List (Nat × Instr × Nat) := [(0, .aload_n 0, 1), (1, .invokespecial 1, 3), (4, .aload_n 0, 1), (5, .bipush 12, 2), (7, .newarray .int, 2), (9, .putfield 9, 3), (12, .aload_n 0, 1), (13, .bipush 12, 2), (15, .newarray .boolean, 2), (17, .putfield 13, 3), (20, .return_, 1)]
def qV_init : mm_M := (⟨"EditorCore$Events", "<init>", "()V"⟩, prog_2_method_1_code, mm_cd qV_init_t, 1, none, { frames := 1, cells := 2, slots := 24, locals := 38 }, mm_fl fl_V)
theorem qV_init_ok : mm_ok qV_init := ⟨mm_cd_ok qV_init_t (by decide +kernel), mm_fl_ok fl_V fl_V_ok⟩
theorem qV_init_k : mm_LkI qV_init 0 := ⟨⟨wd_134, ⟨by decide +kernel, by decide +kernel, by decide +kernel⟩, wd_7⟩, wd_133, rfl, rfl⟩
def qN_init_t : List (Nat × Instr × Nat) := [(0, .aload_n 0, 1), (1, .invokespecial 3, 3), (4, .aload_n 0, 1), (5, .bipush 10, 2), (7, .putfield 9, 3), (10, .aload_n 0, 1), (11, .iconst 4, 1), (12, .putfield 15, 3), (15, .return_, 1)]
def qN_init : mm_M := (⟨"EditorCore$Window", "<init>", "()V"⟩, prog_8_method_1_code, mm_cd qN_init_t, 1, none, { frames := 1, cells := 0, slots := 0, locals := 38 }, mm_fl fl_N)
theorem qN_init_ok : mm_ok qN_init := ⟨mm_cd_ok qN_init_t (by decide +kernel), mm_fl_ok fl_N fl_N_ok⟩
theorem qN_init_k : mm_LkI qN_init 0 := ⟨⟨wd_157, ⟨by decide +kernel, by decide +kernel, by decide +kernel⟩, wd_8⟩, wd_156, rfl, rfl⟩
def qL_clear_t : List (Nat × Instr × Nat) := [(0, .aload_n 0, 1), (1, .iconst 0, 1), (2, .putfield 15, 3), (5, .return_, 1)]
def qL_clear : mm_M := (⟨"EditorCore$Letters", "clear", "()V"⟩, prog_6_method_2_code, mm_cd qL_clear_t, 1, none, { frames := 0, cells := 0, slots := 0, locals := 0 }, mm_fl fl_L)
theorem qL_clear_ok : mm_ok qL_clear := ⟨mm_cd_ok qL_clear_t (by decide +kernel), mm_fl_ok fl_L fl_L_ok⟩
theorem qL_clear_k : mm_LkV qL_clear 0 2 := ⟨⟨wd_225, ⟨by decide +kernel, by decide +kernel, by decide +kernel⟩, wd_3⟩, wd_223, wd_224, ⟨_, _, rfl⟩⟩
def qL_add_t : List (Nat × Instr × Nat) := [(0, .aload_n 0, 1), (1, .getfield 15, 3), (4, .bipush 100, 2), (6, .if_icmp .ge 23, 3), (9, .aload_n 0, 1), (10, .getfield 9, 3), (13, .aload_n 0, 1), (14, .getfield 15, 3), (17, .iload_n 1, 1), (18, .iastore, 1), (19, .aload_n 0, 1), (20, .dup, 1), (21, .getfield 15, 3), (24, .iconst 1, 1), (25, .iadd, 1), (26, .putfield 15, 3), (29, .return_, 1)]
def qL_add : mm_M := (⟨"EditorCore$Letters", "add", "(I)V"⟩, prog_6_method_3_code, mm_cd qL_add_t, 2, none, { frames := 0, cells := 0, slots := 0, locals := 0 }, mm_fl fl_L)
theorem qL_add_ok : mm_ok qL_add := ⟨mm_cd_ok qL_add_t (by decide +kernel), mm_fl_ok fl_L fl_L_ok⟩
theorem qL_add_k : mm_LkV qL_add 1 2 := ⟨⟨wd_229, ⟨by decide +kernel, by decide +kernel, by decide +kernel⟩, wd_3⟩, wd_227, wd_228, ⟨_, _, rfl⟩⟩
def qH_latestPut_t : List (Nat × Instr × Nat) := [(0, .aload_n 0, 1), (1, .getfield 15, 3), (4, .aload_n 0, 1), (5, .getfield 31, 3), (8, .invokestatic 35, 3), (11, .iaload, 1), (12, .ireturn, 1)]
def qH_latestPut : mm_M := (⟨"EditorCore$History", "latestPut", "()I"⟩, prog_3_method_4_code, mm_cd qH_latestPut_t, 1, some .int, { frames := 2, cells := 0, slots := 0, locals := 76 }, mm_fl fl_H)
theorem qH_latestPut_ok : mm_ok qH_latestPut := ⟨mm_cd_ok qH_latestPut_t (by decide +kernel), mm_fl_ok fl_H fl_H_ok⟩
theorem qH_latestPut_k : mm_LkV qH_latestPut 0 4 := ⟨⟨wd_233, ⟨by decide +kernel, by decide +kernel, by decide +kernel⟩, wd_5⟩, wd_231, wd_232, ⟨_, _, rfl⟩⟩
def qH_slotOf_t : List (Nat × Instr × Nat) := [(0, .iload_n 0, 1), (1, .bipush 20, 2), (3, .invokestatic 25, 3), (6, .ireturn, 1)]
def qH_slotOf : mm_M := (⟨"EditorCore$History", "slotOf", "(I)I"⟩, prog_3_method_2_code, mm_cd qH_slotOf_t, 1, some .int, { frames := 1, cells := 0, slots := 0, locals := 38 }, mm_fl fl_H)
theorem qH_slotOf_ok : mm_ok qH_slotOf := ⟨mm_cd_ok qH_slotOf_t (by decide +kernel), mm_fl_ok fl_H fl_H_ok⟩
theorem qH_slotOf_k : mm_LkS qH_slotOf 1 := ⟨⟨wd_236, ⟨by decide +kernel, by decide +kernel, by decide +kernel⟩, wd_5⟩, wd_235⟩
def qJ_floorMod_t : List (Nat × Instr × Nat) := [(0, .iload_n 0, 1), (1, .iload_n 1, 1), (2, .irem, 1), (3, .istore_n 2, 1), (4, .iload_n 0, 1), (5, .iload_n 1, 1), (6, .ixor, 1), (7, .ifCond .ge 11, 3), (10, .iload_n 2, 1), (11, .ifCond .eq 7, 3), (14, .iload_n 2, 1), (15, .iload_n 1, 1), (16, .iadd, 1), (17, .ireturn, 1), (18, .iload_n 2, 1), (19, .ireturn, 1)]
def qJ_floorMod : mm_M := (⟨"java/lang/Math", "floorMod", "(II)I"⟩, prog_11_method_50_code, mm_cd qJ_floorMod_t, 3, some .int, { frames := 0, cells := 0, slots := 0, locals := 0 }, mm_fl fl_J)
theorem qJ_floorMod_ok : mm_ok qJ_floorMod := ⟨mm_cd_ok qJ_floorMod_t (by decide +kernel), mm_fl_ok fl_J fl_J_ok⟩
theorem qJ_floorMod_k : mm_LkS qJ_floorMod 2 := ⟨⟨wd_239, ⟨by decide +kernel, by decide +kernel, by decide +kernel⟩, wd_10⟩, wd_238⟩
def qH_edit_t : List (Nat × Instr × Nat) := [(0, .aload_n 1, 1), (1, .iload_n 2, 1), (2, .iload_n 3, 1), (3, .aload 4, 2), (5, .invokevirtual 39, 3), (8, .ifCond .ne 6, 3), (11, .bipush (-3), 2), (13, .ireturn, 1), (14, .iload 5, 2), (16, .ifCond .eq 26, 3), (19, .aload_n 0, 1), (20, .getfield 15, 3), (23, .aload_n 0, 1), (24, .getfield 31, 3), (27, .invokestatic 35, 3), (30, .dup2, 1), (31, .iaload, 1), (32, .aload 4, 2), (34, .getfield 45, 3), (37, .iadd, 1), (38, .iastore, 1), (39, .goto 70, 3), (42, .aload_n 0, 1), (43, .dup, 1), (44, .getfield 31, 3), (47, .iconst 1, 1), (48, .iadd, 1), (49, .putfield 31, 3), (52, .aload_n 0, 1), (53, .getfield 31, 3), (56, .invokestatic 35, 3), (59, .istore 6, 2), (61, .aload_n 0, 1), (62, .getfield 11, 3), (65, .iload 6, 2), (67, .iload_n 2, 1), (68, .iastore, 1), (69, .aload_n 0, 1), (70, .getfield 15, 3), (73, .iload 6, 2), (75, .aload 4, 2), (77, .getfield 45, 3), (80, .iastore, 1), (81, .aload_n 0, 1), (82, .getfield 20, 3), (85, .iload 6, 2), (87, .aaload, 1), (88, .invokevirtual 48, 3), (91, .aload_n 0, 1), (92, .getfield 20, 3), (95, .iload 6, 2), (97, .aaload, 1), (98, .aload_n 1, 1), (99, .getfield 51, 3), (102, .iload_n 2, 1), (103, .iload_n 2, 1), (104, .iload_n 3, 1), (105, .iadd, 1), (106, .invokevirtual 55, 3), (109, .aload_n 1, 1), (110, .iload_n 2, 1), (111, .iload_n 3, 1), (112, .aload 4, 2), (114, .invokevirtual 59, 3), (117, .iconst 0, 1), (118, .ireturn, 1)]
def qH_edit : mm_M := (⟨"EditorCore$History", "edit", "(LEditorCore$Text;IILEditorCore$Letters;Z)I"⟩, prog_3_method_5_code, mm_cd qH_edit_t, 7, some .int, { frames := 2, cells := 0, slots := 0, locals := 76 }, mm_fl fl_H)
theorem qH_edit_ok : mm_ok qH_edit := ⟨mm_cd_ok qH_edit_t (by decide +kernel), mm_fl_ok fl_H fl_H_ok⟩
theorem qH_edit_k : mm_LkV qH_edit 5 4 := ⟨⟨wd_243, ⟨by decide +kernel, by decide +kernel, by decide +kernel⟩, wd_5⟩, wd_241, wd_242, ⟨_, _, rfl⟩⟩
def qT_takes_t : List (Nat × Instr × Nat) := [(0, .iload_n 1, 1), (1, .ifCond .lt 43, 3), (4, .iload_n 2, 1), (5, .ifCond .lt 39, 3), (8, .iload_n 1, 1), (9, .iload_n 2, 1), (10, .iadd, 1), (11, .aload_n 0, 1), (12, .getfield 12, 3), (15, .getfield 26, 3), (18, .if_icmp .gt 26, 3), (21, .aload_n 0, 1), (22, .getfield 12, 3), (25, .getfield 26, 3), (28, .iload_n 2, 1), (29, .isub, 1), (30, .aload_n 3, 1), (31, .getfield 26, 3), (34, .iadd, 1), (35, .bipush 100, 2), (37, .if_icmp .gt 7, 3), (40, .iconst 1, 1), (41, .goto 4, 3), (44, .iconst 0, 1), (45, .ireturn, 1)]
def qT_takes : mm_M := (⟨"EditorCore$Text", "takes", "(IILEditorCore$Letters;)Z"⟩, prog_7_method_2_code, mm_cd qT_takes_t, 4, some .boolean, { frames := 0, cells := 0, slots := 0, locals := 0 }, mm_fl fl_T)
theorem qT_takes_ok : mm_ok qT_takes := ⟨mm_cd_ok qT_takes_t (by decide +kernel), mm_fl_ok fl_T fl_T_ok⟩
theorem qT_takes_k : mm_LkV qT_takes 3 1 := ⟨⟨wd_247, ⟨by decide +kernel, by decide +kernel, by decide +kernel⟩, wd_2⟩, wd_245, wd_246, ⟨_, _, rfl⟩⟩
def qL_append_t : List (Nat × Instr × Nat) := [(0, .iload_n 3, 1), (1, .iload_n 2, 1), (2, .isub, 1), (3, .istore 4, 2), (5, .iload_n 2, 1), (6, .ifCond .lt 28, 3), (9, .iload 4, 2), (11, .ifCond .lt 23, 3), (14, .iload_n 3, 1), (15, .aload_n 1, 1), (16, .getfield 15, 3), (19, .if_icmp .gt 15, 3), (22, .aload_n 0, 1), (23, .getfield 15, 3), (26, .iload 4, 2), (28, .iadd, 1), (29, .bipush 100, 2), (31, .if_icmp .le 4, 3), (34, .return_, 1), (35, .aload_n 1, 1), (36, .getfield 9, 3), (39, .iload_n 2, 1), (40, .aload_n 0, 1), (41, .getfield 9, 3), (44, .aload_n 0, 1), (45, .getfield 15, 3), (48, .iload 4, 2), (50, .invokestatic 19, 3), (53, .aload_n 0, 1), (54, .dup, 1), (55, .getfield 15, 3), (58, .iload 4, 2), (60, .iadd, 1), (61, .putfield 15, 3), (64, .return_, 1)]
def qL_append : mm_M := (⟨"EditorCore$Letters", "append", "(LEditorCore$Letters;II)V"⟩, prog_6_method_4_code, mm_cd qL_append_t, 5, none, { frames := 1, cells := 0, slots := 0, locals := 38 }, mm_fl fl_L)
theorem qL_append_ok : mm_ok qL_append := ⟨mm_cd_ok qL_append_t (by decide +kernel), mm_fl_ok fl_L fl_L_ok⟩
theorem qL_append_k : mm_LkV qL_append 3 2 := ⟨⟨wd_252, ⟨by decide +kernel, by decide +kernel, by decide +kernel⟩, wd_3⟩, wd_250, wd_251, ⟨_, _, rfl⟩⟩
def qT_replace_t : List (Nat × Instr × Nat) := [(0, .iload_n 1, 1), (1, .iload_n 2, 1), (2, .iadd, 1), (3, .istore 4, 2), (5, .aload_n 3, 1), (6, .getfield 26, 3), (9, .iload_n 2, 1), (10, .isub, 1), (11, .istore 5, 2), (13, .aload_n 0, 1), (14, .getfield 12, 3), (17, .getfield 30, 3), (20, .iload 4, 2), (22, .aload_n 0, 1), (23, .getfield 12, 3), (26, .getfield 30, 3), (29, .iload 4, 2), (31, .iload 5, 2), (33, .iadd, 1), (34, .aload_n 0, 1), (35, .getfield 12, 3), (38, .getfield 26, 3), (41, .iload 4, 2), (43, .isub, 1), (44, .invokestatic 33, 3), (47, .aload_n 3, 1), (48, .getfield 30, 3), (51, .iconst 0, 1), (52, .aload_n 0, 1), (53, .getfield 12, 3), (56, .getfield 30, 3), (59, .iload_n 1, 1), (60, .aload_n 3, 1), (61, .getfield 26, 3), (64, .invokestatic 33, 3), (67, .aload_n 0, 1), (68, .getfield 12, 3), (71, .dup, 1), (72, .getfield 26, 3), (75, .iload 5, 2), (77, .iadd, 1), (78, .putfield 26, 3), (81, .iconst 0, 1), (82, .istore 6, 2), (84, .iload 6, 2), (86, .aload_n 0, 1), (87, .getfield 18, 3), (90, .arraylength, 1), (91, .if_icmp .ge 39, 3), (94, .aload_n 0, 1), (95, .getfield 18, 3), (98, .iload 6, 2), (100, .aload_n 0, 1), (101, .getfield 18, 3), (104, .iload 6, 2), (106, .iaload, 1), (107, .aload_n 0, 1), (108, .getfield 22, 3), (111, .iload 6, 2), (113, .baload, 1), (114, .iload_n 1, 1), (115, .iload_n 2, 1), (116, .aload_n 3, 1), (117, .getfield 26, 3), (120, .invokestatic 39, 3), (123, .iastore, 1), (124, .iinc 6 1, 3), (127, .goto (-43), 3), (130, .return_, 1)]
def qT_replace : mm_M := (⟨"EditorCore$Text", "replace", "(IILEditorCore$Letters;)V"⟩, prog_7_method_3_code, mm_cd qT_replace_t, 7, none, { frames := 1, cells := 0, slots := 0, locals := 38 }, mm_fl fl_T)
theorem qT_replace_ok : mm_ok qT_replace := ⟨mm_cd_ok qT_replace_t (by decide +kernel), mm_fl_ok fl_T fl_T_ok⟩
theorem qT_replace_k : mm_LkV qT_replace 3 1 := ⟨⟨wd_259, ⟨by decide +kernel, by decide +kernel, by decide +kernel⟩, wd_2⟩, wd_257, wd_258, ⟨_, _, rfl⟩⟩
def qT_moved_t : List (Nat × Instr × Nat) := [(0, .iload_n 0, 1), (1, .iload_n 2, 1), (2, .if_icmp .lt 16, 3), (5, .iload_n 0, 1), (6, .iload_n 2, 1), (7, .if_icmp .ne 13, 3), (10, .iload_n 3, 1), (11, .ifCond .gt 7, 3), (14, .iload_n 1, 1), (15, .ifCond .ne 5, 3), (18, .iload_n 0, 1), (19, .ireturn, 1), (20, .iload_n 0, 1), (21, .iload_n 2, 1), (22, .if_icmp .le 12, 3), (25, .iload_n 0, 1), (26, .iload_n 2, 1), (27, .iload_n 3, 1), (28, .iadd, 1), (29, .if_icmp .ge 5, 3), (32, .iload_n 2, 1), (33, .ireturn, 1), (34, .iload_n 0, 1), (35, .iload 4, 2), (37, .iadd, 1), (38, .iload_n 3, 1), (39, .isub, 1), (40, .ireturn, 1)]
def qT_moved : mm_M := (⟨"EditorCore$Text", "moved", "(IZIII)I"⟩, prog_7_method_4_code, mm_cd qT_moved_t, 5, some .int, { frames := 0, cells := 0, slots := 0, locals := 0 }, mm_fl fl_T)
theorem qT_moved_ok : mm_ok qT_moved := ⟨mm_cd_ok qT_moved_t (by decide +kernel), mm_fl_ok fl_T fl_T_ok⟩
theorem qT_moved_k : mm_LkS qT_moved 5 := ⟨⟨wd_263, ⟨by decide +kernel, by decide +kernel, by decide +kernel⟩, wd_2⟩, wd_262⟩
def qV_note_t : List (Nat × Instr × Nat) := [(0, .aload_n 0, 1), (1, .getfield 17, 3), (4, .ifCond .eq 42, 3), (7, .aload_n 0, 1), (8, .getfield 21, 3), (11, .bipush 12, 2), (13, .if_icmp .ge 33, 3), (16, .aload_n 0, 1), (17, .getfield 9, 3), (20, .aload_n 0, 1), (21, .getfield 21, 3), (24, .iload_n 1, 1), (25, .iastore, 1), (26, .aload_n 0, 1), (27, .getfield 13, 3), (30, .aload_n 0, 1), (31, .getfield 21, 3), (34, .iload_n 2, 1), (35, .bastore, 1), (36, .aload_n 0, 1), (37, .dup, 1), (38, .getfield 21, 3), (41, .iconst 1, 1), (42, .iadd, 1), (43, .putfield 21, 3), (46, .return_, 1)]
def qV_note : mm_M := (⟨"EditorCore$Events", "note", "(IZ)V"⟩, prog_2_method_2_code, mm_cd qV_note_t, 3, none, { frames := 0, cells := 0, slots := 0, locals := 0 }, mm_fl fl_V)
theorem qV_note_ok : mm_ok qV_note := ⟨mm_cd_ok qV_note_t (by decide +kernel), mm_fl_ok fl_V fl_V_ok⟩
theorem qV_note_k : mm_LkV qV_note 2 6 := ⟨⟨wd_271, ⟨by decide +kernel, by decide +kernel, by decide +kernel⟩, wd_7⟩, wd_269, wd_270, ⟨_, _, rfl⟩⟩
def qY_stroke_t : List (Nat × Instr × Nat) := [(0, .aload_n 0, 1), (1, .getfield 22, 3), (4, .iload_n 1, 1), (5, .iconst 1, 1), (6, .iadd, 1), (7, .aload_n 0, 1), (8, .getfield 22, 3), (11, .invokestatic 18, 3), (14, .bipush 17, 2), (16, .idiv, 1), (17, .imul, 1), (18, .iadd, 1), (19, .istore_n 2, 1), (20, .aload_n 0, 1), (21, .iconst 0, 1), (22, .putfield 22, 3), (25, .iconst 0, 1), (26, .istore_n 3, 1), (27, .iload_n 3, 1), (28, .aload_n 0, 1), (29, .getfield 26, 3), (32, .if_icmp .ge 44, 3), (35, .aload_n 0, 1), (36, .getfield 11, 3), (39, .iload_n 3, 1), (40, .iaload, 1), (41, .iload_n 2, 1), (42, .if_icmp .ne 10, 3), (45, .aload_n 0, 1), (46, .getfield 15, 3), (49, .iload_n 3, 1), (50, .iaload, 1), (51, .ireturn, 1), (52, .aload_n 0, 1), (53, .getfield 11, 3), (56, .iload_n 3, 1), (57, .iaload, 1), (58, .iload_n 2, 1), (59, .invokestatic 29, 3), (62, .ifCond .eq 8, 3), (65, .aload_n 0, 1), (66, .iload_n 2, 1), (67, .putfield 22, 3), (70, .iinc 3 1, 3), (73, .goto (-46), 3), (76, .aload_n 0, 1), (77, .getfield 22, 3), (80, .ifCond .ne 8, 3), (83, .bipush (-4), 2), (85, .goto 6, 3), (88, .sipush 1000, 3), (91, .ireturn, 1)]
def qY_stroke : mm_M := (⟨"EditorCore$Keys", "stroke", "(I)I"⟩, prog_4_method_8_code, mm_cd qY_stroke_t, 4, some .int, { frames := 2, cells := 0, slots := 0, locals := 76 }, mm_fl fl_Y)
theorem qY_stroke_ok : mm_ok qY_stroke := ⟨mm_cd_ok qY_stroke_t (by decide +kernel), mm_fl_ok fl_Y fl_Y_ok⟩
theorem qY_stroke_k : mm_LkV qY_stroke 1 5 := ⟨⟨wd_283, ⟨by decide +kernel, by decide +kernel, by decide +kernel⟩, wd_6⟩, wd_281, wd_282, ⟨_, _, rfl⟩⟩
def qY_span_t : List (Nat × Instr × Nat) := [(0, .iload_n 0, 1), (1, .ifCond .ne 7, 3), (4, .sipush 4913, 3), (7, .ireturn, 1), (8, .iload_n 0, 1), (9, .sipush 289, 3), (12, .irem, 1), (13, .ifCond .ne 7, 3), (16, .sipush 289, 3), (19, .ireturn, 1), (20, .iload_n 0, 1), (21, .bipush 17, 2), (23, .irem, 1), (24, .ifCond .ne 8, 3), (27, .bipush 17, 2), (29, .goto 4, 3), (32, .iconst 1, 1), (33, .ireturn, 1)]
def qY_span : mm_M := (⟨"EditorCore$Keys", "span", "(I)I"⟩, prog_4_method_3_code, mm_cd qY_span_t, 1, some .int, { frames := 0, cells := 0, slots := 0, locals := 0 }, mm_fl fl_Y)
theorem qY_span_ok : mm_ok qY_span := ⟨mm_cd_ok qY_span_t (by decide +kernel), mm_fl_ok fl_Y fl_Y_ok⟩
theorem qY_span_k : mm_LkS qY_span 1 := ⟨⟨wd_286, ⟨by decide +kernel, by decide +kernel, by decide +kernel⟩, wd_6⟩, wd_285⟩
def qY_isLonger_t : List (Nat × Instr × Nat) := [(0, .iload_n 0, 1), (1, .iload_n 1, 1), (2, .if_icmp .le 17, 3), (5, .iload_n 0, 1), (6, .iload_n 1, 1), (7, .iload_n 1, 1), (8, .invokestatic 18, 3), (11, .iadd, 1), (12, .if_icmp .ge 7, 3), (15, .iconst 1, 1), (16, .goto 4, 3), (19, .iconst 0, 1), (20, .ireturn, 1)]
def qY_isLonger : mm_M := (⟨"EditorCore$Keys", "isLonger", "(II)Z"⟩, prog_4_method_4_code, mm_cd qY_isLonger_t, 2, some .boolean, { frames := 1, cells := 0, slots := 0, locals := 38 }, mm_fl fl_Y)
theorem qY_isLonger_ok : mm_ok qY_isLonger := ⟨mm_cd_ok qY_isLonger_t (by decide +kernel), mm_fl_ok fl_Y fl_Y_ok⟩
theorem qY_isLonger_k : mm_LkS qY_isLonger 2 := ⟨⟨wd_289, ⟨by decide +kernel, by decide +kernel, by decide +kernel⟩, wd_6⟩, wd_288⟩
def qT_beginningBelow_t : List (Nat × Instr × Nat) := [(0, .aload_n 0, 1), (1, .iload_n 1, 1), (2, .invokevirtual 43, 3), (5, .istore_n 3, 1), (6, .iconst 0, 1), (7, .istore 4, 2), (9, .iload 4, 2), (11, .iload_n 2, 1), (12, .if_icmp .ge 37, 3), (15, .aload_n 0, 1), (16, .iload_n 3, 1), (17, .invokevirtual 47, 3), (20, .istore 5, 2), (22, .iload 5, 2), (24, .aload_n 0, 1), (25, .getfield 12, 3), (28, .getfield 26, 3), (31, .if_icmp .ge 10, 3), (34, .iload 5, 2), (36, .iconst 1, 1), (37, .iadd, 1), (38, .goto 4, 3), (41, .iload_n 3, 1), (42, .istore_n 3, 1), (43, .iinc 4 1, 3), (46, .goto (-37), 3), (49, .iload_n 3, 1), (50, .ireturn, 1)]
def qT_beginningBelow : mm_M := (⟨"EditorCore$Text", "beginningBelow", "(II)I"⟩, prog_7_method_7_code, mm_cd qT_beginningBelow_t, 6, some .int, { frames := 1, cells := 0, slots := 0, locals := 38 }, mm_fl fl_T)
theorem qT_beginningBelow_ok : mm_ok qT_beginningBelow := ⟨mm_cd_ok qT_beginningBelow_t (by decide +kernel), mm_fl_ok fl_T fl_T_ok⟩
theorem qT_beginningBelow_k : mm_LkV qT_beginningBelow 2 1 := ⟨⟨wd_311, ⟨by decide +kernel, by decide +kernel, by decide +kernel⟩, wd_2⟩, wd_309, wd_310, ⟨_, _, rfl⟩⟩
def qT_lineBeginning_t : List (Nat × Instr × Nat) := [(0, .iload_n 1, 1), (1, .istore_n 2, 1), (2, .iload_n 2, 1), (3, .ifCond .le 25, 3), (6, .aload_n 0, 1), (7, .getfield 12, 3), (10, .getfield 30, 3), (13, .iload_n 2, 1), (14, .iconst 1, 1), (15, .isub, 1), (16, .iaload, 1), (17, .bipush 10, 2), (19, .if_icmp .eq 9, 3), (22, .iinc 2 (-1), 3), (25, .goto (-23), 3), (28, .iload_n 2, 1), (29, .ireturn, 1)]
def qT_lineBeginning : mm_M := (⟨"EditorCore$Text", "lineBeginning", "(I)I"⟩, prog_7_method_5_code, mm_cd qT_lineBeginning_t, 3, some .int, { frames := 0, cells := 0, slots := 0, locals := 0 }, mm_fl fl_T)
theorem qT_lineBeginning_ok : mm_ok qT_lineBeginning := ⟨mm_cd_ok qT_lineBeginning_t (by decide +kernel), mm_fl_ok fl_T fl_T_ok⟩
theorem qT_lineBeginning_k : mm_LkV qT_lineBeginning 1 1 := ⟨⟨wd_315, ⟨by decide +kernel, by decide +kernel, by decide +kernel⟩, wd_2⟩, wd_313, wd_314, ⟨_, _, rfl⟩⟩
def qT_lineEnd_t : List (Nat × Instr × Nat) := [(0, .iload_n 1, 1), (1, .istore_n 2, 1), (2, .iload_n 2, 1), (3, .aload_n 0, 1), (4, .getfield 12, 3), (7, .getfield 26, 3), (10, .if_icmp .ge 23, 3), (13, .aload_n 0, 1), (14, .getfield 12, 3), (17, .getfield 30, 3), (20, .iload_n 2, 1), (21, .iaload, 1), (22, .bipush 10, 2), (24, .if_icmp .eq 9, 3), (27, .iinc 2 1, 3), (30, .goto (-28), 3), (33, .iload_n 2, 1), (34, .ireturn, 1)]
def qT_lineEnd : mm_M := (⟨"EditorCore$Text", "lineEnd", "(I)I"⟩, prog_7_method_6_code, mm_cd qT_lineEnd_t, 3, some .int, { frames := 0, cells := 0, slots := 0, locals := 0 }, mm_fl fl_T)
theorem qT_lineEnd_ok : mm_ok qT_lineEnd := ⟨mm_cd_ok qT_lineEnd_t (by decide +kernel), mm_fl_ok fl_T fl_T_ok⟩
theorem qT_lineEnd_k : mm_LkV qT_lineEnd 1 1 := ⟨⟨wd_319, ⟨by decide +kernel, by decide +kernel, by decide +kernel⟩, wd_2⟩, wd_317, wd_318, ⟨_, _, rfl⟩⟩
def qT_beginningAbove_t : List (Nat × Instr × Nat) := [(0, .aload_n 0, 1), (1, .iload_n 1, 1), (2, .invokevirtual 43, 3), (5, .istore_n 3, 1), (6, .iconst 0, 1), (7, .istore 4, 2), (9, .iload 4, 2), (11, .iload_n 2, 1), (12, .if_icmp .ge 21, 3), (15, .iload_n 3, 1), (16, .ifCond .le 17, 3), (19, .aload_n 0, 1), (20, .iload_n 3, 1), (21, .iconst 1, 1), (22, .isub, 1), (23, .invokevirtual 43, 3), (26, .istore_n 3, 1), (27, .iinc 4 1, 3), (30, .goto (-21), 3), (33, .iload_n 3, 1), (34, .ireturn, 1)]
def qT_beginningAbove : mm_M := (⟨"EditorCore$Text", "beginningAbove", "(II)I"⟩, prog_7_method_8_code, mm_cd qT_beginningAbove_t, 5, some .int, { frames := 1, cells := 0, slots := 0, locals := 38 }, mm_fl fl_T)
theorem qT_beginningAbove_ok : mm_ok qT_beginningAbove := ⟨mm_cd_ok qT_beginningAbove_t (by decide +kernel), mm_fl_ok fl_T fl_T_ok⟩
theorem qT_beginningAbove_k : mm_LkV qT_beginningAbove 2 1 := ⟨⟨wd_329, ⟨by decide +kernel, by decide +kernel, by decide +kernel⟩, wd_2⟩, wd_327, wd_328, ⟨_, _, rfl⟩⟩
def qT_behindWords_t : List (Nat × Instr × Nat) := [(0, .iload_n 1, 1), (1, .istore_n 3, 1), (2, .iconst 0, 1), (3, .istore 4, 2), (5, .iload 4, 2), (7, .iload_n 2, 1), (8, .if_icmp .ge 73, 3), (11, .iload_n 3, 1), (12, .aload_n 0, 1), (13, .getfield 12, 3), (16, .getfield 26, 3), (19, .if_icmp .ge 24, 3), (22, .aload_n 0, 1), (23, .getfield 12, 3), (26, .getfield 30, 3), (29, .iload_n 3, 1), (30, .iaload, 1), (31, .invokestatic 50, 3), (34, .ifCond .ne 9, 3), (37, .iinc 3 1, 3), (40, .goto (-29), 3), (43, .iload_n 3, 1), (44, .aload_n 0, 1), (45, .getfield 12, 3), (48, .getfield 26, 3), (51, .if_icmp .ge 24, 3), (54, .aload_n 0, 1), (55, .getfield 12, 3), (58, .getfield 30, 3), (61, .iload_n 3, 1), (62, .iaload, 1), (63, .invokestatic 50, 3), (66, .ifCond .eq 9, 3), (69, .iinc 3 1, 3), (72, .goto (-29), 3), (75, .iinc 4 1, 3), (78, .goto (-73), 3), (81, .iload_n 3, 1), (82, .ireturn, 1)]
def qT_behindWords : mm_M := (⟨"EditorCore$Text", "behindWords", "(II)I"⟩, prog_7_method_9_code, mm_cd qT_behindWords_t, 5, some .int, { frames := 1, cells := 0, slots := 0, locals := 38 }, mm_fl fl_T)
theorem qT_behindWords_ok : mm_ok qT_behindWords := ⟨mm_cd_ok qT_behindWords_t (by decide +kernel), mm_fl_ok fl_T fl_T_ok⟩
theorem qT_behindWords_k : mm_LkV qT_behindWords 2 1 := ⟨⟨wd_333, ⟨by decide +kernel, by decide +kernel, by decide +kernel⟩, wd_2⟩, wd_331, wd_332, ⟨_, _, rfl⟩⟩
def qT_beforeWords_t : List (Nat × Instr × Nat) := [(0, .iload_n 1, 1), (1, .istore_n 3, 1), (2, .iconst 0, 1), (3, .istore 4, 2), (5, .iload 4, 2), (7, .iload_n 2, 1), (8, .if_icmp .ge 63, 3), (11, .iload_n 3, 1), (12, .ifCond .le 26, 3), (15, .aload_n 0, 1), (16, .getfield 12, 3), (19, .getfield 30, 3), (22, .iload_n 3, 1), (23, .iconst 1, 1), (24, .isub, 1), (25, .iaload, 1), (26, .invokestatic 50, 3), (29, .ifCond .ne 9, 3), (32, .iinc 3 (-1), 3), (35, .goto (-24), 3), (38, .iload_n 3, 1), (39, .ifCond .le 26, 3), (42, .aload_n 0, 1), (43, .getfield 12, 3), (46, .getfield 30, 3), (49, .iload_n 3, 1), (50, .iconst 1, 1), (51, .isub, 1), (52, .iaload, 1), (53, .invokestatic 50, 3), (56, .ifCond .eq 9, 3), (59, .iinc 3 (-1), 3), (62, .goto (-24), 3), (65, .iinc 4 1, 3), (68, .goto (-63), 3), (71, .iload_n 3, 1), (72, .ireturn, 1)]
def qT_beforeWords : mm_M := (⟨"EditorCore$Text", "beforeWords", "(II)I"⟩, prog_7_method_10_code, mm_cd qT_beforeWords_t, 5, some .int, { frames := 1, cells := 0, slots := 0, locals := 38 }, mm_fl fl_T)
theorem qT_beforeWords_ok : mm_ok qT_beforeWords := ⟨mm_cd_ok qT_beforeWords_t (by decide +kernel), mm_fl_ok fl_T fl_T_ok⟩
theorem qT_beforeWords_k : mm_LkV qT_beforeWords 2 1 := ⟨⟨wd_338, ⟨by decide +kernel, by decide +kernel, by decide +kernel⟩, wd_2⟩, wd_336, wd_337, ⟨_, _, rfl⟩⟩
def qK_take_t : List (Nat × Instr × Nat) := [(0, .iload 4, 2), (2, .ifCond .ne 7, 3), (5, .aload_n 0, 1), (6, .invokevirtual 16, 3), (9, .aload_n 0, 1), (10, .getfield 11, 3), (13, .iconst 0, 1), (14, .aaload, 1), (15, .aload_n 1, 1), (16, .iload_n 2, 1), (17, .iload_n 3, 1), (18, .invokevirtual 19, 3), (21, .return_, 1)]
def qK_take : mm_M := (⟨"EditorCore$Kills", "take", "(LEditorCore$Letters;IIZ)V"⟩, prog_5_method_2_code, mm_cd qK_take_t, 5, none, { frames := 2, cells := 0, slots := 0, locals := 76 }, mm_fl fl_K)
theorem qK_take_ok : mm_ok qK_take := ⟨mm_cd_ok qK_take_t (by decide +kernel), mm_fl_ok fl_K fl_K_ok⟩
theorem qK_take_k : mm_LkV qK_take 4 3 := ⟨⟨wd_354, ⟨by decide +kernel, by decide +kernel, by decide +kernel⟩, wd_4⟩, wd_352, wd_353, ⟨_, _, rfl⟩⟩
def qK_makeNewest_t : List (Nat × Instr × Nat) := [(0, .aload_n 0, 1), (1, .getfield 11, 3), (4, .iconst 3, 1), (5, .aaload, 1), (6, .astore_n 1, 1), (7, .iconst 3, 1), (8, .istore_n 2, 1), (9, .iload_n 2, 1), (10, .ifCond .le 23, 3), (13, .aload_n 0, 1), (14, .getfield 11, 3), (17, .iload_n 2, 1), (18, .aload_n 0, 1), (19, .getfield 11, 3), (22, .iload_n 2, 1), (23, .iconst 1, 1), (24, .isub, 1), (25, .aaload, 1), (26, .aastore, 1), (27, .iinc 2 (-1), 3), (30, .goto (-21), 3), (33, .aload_n 1, 1), (34, .invokevirtual 23, 3), (37, .aload_n 0, 1), (38, .getfield 11, 3), (41, .iconst 0, 1), (42, .aload_n 1, 1), (43, .aastore, 1), (44, .aload_n 0, 1), (45, .aload_n 0, 1), (46, .getfield 26, 3), (49, .iconst 1, 1), (50, .iadd, 1), (51, .iconst 4, 1), (52, .invokestatic 30, 3), (55, .putfield 26, 3), (58, .return_, 1)]
def qK_makeNewest : mm_M := (⟨"EditorCore$Kills", "makeNewest", "()V"⟩, prog_5_method_3_code, mm_cd qK_makeNewest_t, 3, none, { frames := 1, cells := 0, slots := 0, locals := 38 }, mm_fl fl_K)
theorem qK_makeNewest_ok : mm_ok qK_makeNewest := ⟨mm_cd_ok qK_makeNewest_t (by decide +kernel), mm_fl_ok fl_K fl_K_ok⟩
theorem qK_makeNewest_k : mm_LkV qK_makeNewest 0 3 := ⟨⟨wd_358, ⟨by decide +kernel, by decide +kernel, by decide +kernel⟩, wd_4⟩, wd_357, ws_10, ⟨_, _, rfl⟩⟩
def qH_keeps_t : List (Nat × Instr × Nat) := [(0, .iload_n 1, 1), (1, .iconst 1, 1), (2, .if_icmp .lt 26, 3), (5, .iload_n 1, 1), (6, .aload_n 0, 1), (7, .getfield 31, 3), (10, .if_icmp .gt 18, 3), (13, .iload_n 1, 1), (14, .aload_n 0, 1), (15, .getfield 31, 3), (18, .bipush 20, 2), (20, .isub, 1), (21, .if_icmp .le 7, 3), (24, .iconst 1, 1), (25, .goto 4, 3), (28, .iconst 0, 1), (29, .ireturn, 1)]
def qH_keeps : mm_M := (⟨"EditorCore$History", "keeps", "(I)Z"⟩, prog_3_method_3_code, mm_cd qH_keeps_t, 2, some .boolean, { frames := 0, cells := 0, slots := 0, locals := 0 }, mm_fl fl_H)
theorem qH_keeps_ok : mm_ok qH_keeps := ⟨mm_cd_ok qH_keeps_t (by decide +kernel), mm_fl_ok fl_H fl_H_ok⟩
theorem qH_keeps_k : mm_LkV qH_keeps 1 4 := ⟨⟨wd_401, ⟨by decide +kernel, by decide +kernel, by decide +kernel⟩, wd_5⟩, wd_399, wd_400, ⟨_, _, rfl⟩⟩
def qL_has_t : List (Nat × Instr × Nat) := [(0, .iload_n 2, 1), (1, .ifCond .lt 16, 3), (4, .iload_n 2, 1), (5, .aload_n 1, 1), (6, .getfield 15, 3), (9, .iadd, 1), (10, .aload_n 0, 1), (11, .getfield 15, 3), (14, .if_icmp .le 5, 3), (17, .iconst 0, 1), (18, .ireturn, 1), (19, .iconst 0, 1), (20, .istore_n 3, 1), (21, .iload_n 3, 1), (22, .aload_n 1, 1), (23, .getfield 15, 3), (26, .if_icmp .ge 28, 3), (29, .aload_n 0, 1), (30, .getfield 9, 3), (33, .iload_n 2, 1), (34, .iload_n 3, 1), (35, .iadd, 1), (36, .iaload, 1), (37, .aload_n 1, 1), (38, .getfield 9, 3), (41, .iload_n 3, 1), (42, .iaload, 1), (43, .if_icmp .eq 5, 3), (46, .iconst 0, 1), (47, .ireturn, 1), (48, .iinc 3 1, 3), (51, .goto (-30), 3), (54, .iconst 1, 1), (55, .ireturn, 1)]
def qL_has : mm_M := (⟨"EditorCore$Letters", "has", "(LEditorCore$Letters;I)Z"⟩, prog_6_method_5_code, mm_cd qL_has_t, 4, some .boolean, { frames := 0, cells := 0, slots := 0, locals := 0 }, mm_fl fl_L)
theorem qL_has_ok : mm_ok qL_has := ⟨mm_cd_ok qL_has_t (by decide +kernel), mm_fl_ok fl_L fl_L_ok⟩
theorem qL_has_k : mm_LkV qL_has 2 2 := ⟨⟨wd_411, ⟨by decide +kernel, by decide +kernel, by decide +kernel⟩, wd_3⟩, wd_409, wd_410, ⟨_, _, rfl⟩⟩
def qY_join_t : List (Nat × Instr × Nat) := [(0, .iload_n 0, 1), (1, .iconst 1, 1), (2, .iadd, 1), (3, .sipush 289, 3), (6, .imul, 1), (7, .iload_n 1, 1), (8, .iconst 1, 1), (9, .iadd, 1), (10, .bipush 17, 2), (12, .imul, 1), (13, .iadd, 1), (14, .iload_n 2, 1), (15, .iadd, 1), (16, .iconst 1, 1), (17, .iadd, 1), (18, .ireturn, 1)]
def qY_join : mm_M := (⟨"EditorCore$Keys", "join", "(III)I"⟩, prog_4_method_2_code, mm_cd qY_join_t, 3, some .int, { frames := 0, cells := 0, slots := 0, locals := 0 }, mm_fl fl_Y)
theorem qY_join_ok : mm_ok qY_join := ⟨mm_cd_ok qY_join_t (by decide +kernel), mm_fl_ok fl_Y fl_Y_ok⟩
theorem qY_join_k : mm_LkS qY_join 3 := ⟨⟨wd_428, ⟨by decide +kernel, by decide +kernel, by decide +kernel⟩, wd_6⟩, wd_427⟩
def qY_assign_t : List (Nat × Instr × Nat) := [(0, .iconst 0, 1), (1, .istore_n 3, 1), (2, .iconst 0, 1), (3, .istore 4, 2), (5, .iload 4, 2), (7, .aload_n 0, 1), (8, .getfield 26, 3), (11, .if_icmp .ge 54, 3), (14, .iload_n 1, 1), (15, .aload_n 0, 1), (16, .getfield 11, 3), (19, .iload 4, 2), (21, .iaload, 1), (22, .invokestatic 29, 3), (25, .ifCond .eq 6, 3), (28, .bipush (-3), 2), (30, .ireturn, 1), (31, .aload_n 0, 1), (32, .getfield 11, 3), (35, .iload 4, 2), (37, .iaload, 1), (38, .iload_n 1, 1), (39, .if_icmp .eq 17, 3), (42, .aload_n 0, 1), (43, .getfield 11, 3), (46, .iload 4, 2), (48, .iaload, 1), (49, .iload_n 1, 1), (50, .invokestatic 29, 3), (53, .ifCond .eq 6, 3), (56, .iinc 3 1, 3), (59, .iinc 4 1, 3), (62, .goto (-57), 3), (65, .iload_n 2, 1), (66, .iconst (-1), 1), (67, .if_icmp .ne 13, 3), (70, .aload_n 0, 1), (71, .iload_n 1, 1), (72, .iload_n 1, 1), (73, .iconst 1, 1), (74, .iadd, 1), (75, .invokevirtual 33, 3), (78, .iconst 0, 1), (79, .ireturn, 1), (80, .aload_n 0, 1), (81, .getfield 26, 3), (84, .iload_n 3, 1), (85, .isub, 1), (86, .bipush 24, 2), (88, .if_icmp .lt 6, 3), (91, .bipush (-3), 2), (93, .ireturn, 1), (94, .aload_n 0, 1), (95, .iload_n 1, 1), (96, .iload_n 1, 1), (97, .iload_n 1, 1), (98, .invokestatic 18, 3), (101, .iadd, 1), (102, .invokevirtual 33, 3), (105, .aload_n 0, 1), (106, .getfield 11, 3), (109, .aload_n 0, 1), (110, .getfield 26, 3), (113, .iload_n 1, 1), (114, .iastore, 1), (115, .aload_n 0, 1), (116, .getfield 15, 3), (119, .aload_n 0, 1), (120, .getfield 26, 3), (123, .iload_n 2, 1), (124, .iastore, 1), (125, .aload_n 0, 1), (126, .dup, 1), (127, .getfield 26, 3), (130, .iconst 1, 1), (131, .iadd, 1), (132, .putfield 26, 3), (135, .iconst 0, 1), (136, .ireturn, 1)]
def qY_assign : mm_M := (⟨"EditorCore$Keys", "assign", "(II)I"⟩, prog_4_method_6_code, mm_cd qY_assign_t, 5, some .int, { frames := 2, cells := 0, slots := 0, locals := 76 }, mm_fl fl_Y)
theorem qY_assign_ok : mm_ok qY_assign := ⟨mm_cd_ok qY_assign_t (by decide +kernel), mm_fl_ok fl_Y fl_Y_ok⟩
theorem qY_assign_k : mm_LkV qY_assign 2 5 := ⟨⟨wd_432, ⟨by decide +kernel, by decide +kernel, by decide +kernel⟩, wd_6⟩, wd_430, wd_431, ⟨_, _, rfl⟩⟩
def qY_drop_t : List (Nat × Instr × Nat) := [(0, .iconst 0, 1), (1, .istore_n 3, 1), (2, .iconst 0, 1), (3, .istore 4, 2), (5, .iload 4, 2), (7, .aload_n 0, 1), (8, .getfield 26, 3), (11, .if_icmp .ge 60, 3), (14, .aload_n 0, 1), (15, .getfield 11, 3), (18, .iload 4, 2), (20, .iaload, 1), (21, .iload_n 1, 1), (22, .if_icmp .lt 14, 3), (25, .aload_n 0, 1), (26, .getfield 11, 3), (29, .iload 4, 2), (31, .iaload, 1), (32, .iload_n 2, 1), (33, .if_icmp .lt 32, 3), (36, .aload_n 0, 1), (37, .getfield 11, 3), (40, .iload_n 3, 1), (41, .aload_n 0, 1), (42, .getfield 11, 3), (45, .iload 4, 2), (47, .iaload, 1), (48, .iastore, 1), (49, .aload_n 0, 1), (50, .getfield 15, 3), (53, .iload_n 3, 1), (54, .aload_n 0, 1), (55, .getfield 15, 3), (58, .iload 4, 2), (60, .iaload, 1), (61, .iastore, 1), (62, .iinc 3 1, 3), (65, .iinc 4 1, 3), (68, .goto (-63), 3), (71, .aload_n 0, 1), (72, .iload_n 3, 1), (73, .putfield 26, 3), (76, .return_, 1)]
def qY_drop : mm_M := (⟨"EditorCore$Keys", "drop", "(II)V"⟩, prog_4_method_7_code, mm_cd qY_drop_t, 5, none, { frames := 0, cells := 0, slots := 0, locals := 0 }, mm_fl fl_Y)
theorem qY_drop_ok : mm_ok qY_drop := ⟨mm_cd_ok qY_drop_t (by decide +kernel), mm_fl_ok fl_Y fl_Y_ok⟩
theorem qY_drop_k : mm_LkV qY_drop 2 5 := ⟨⟨wd_436, ⟨by decide +kernel, by decide +kernel, by decide +kernel⟩, wd_6⟩, wd_435, ws_21, ⟨_, _, rfl⟩⟩
def qN_resize_t : List (Nat × Instr × Nat) := [(0, .iload_n 1, 1), (1, .iconst 4, 1), (2, .if_icmp .lt 20, 3), (5, .iload_n 1, 1), (6, .bipush 20, 2), (8, .if_icmp .gt 14, 3), (11, .iload_n 2, 1), (12, .iconst 2, 1), (13, .if_icmp .lt 9, 3), (16, .iload_n 2, 1), (17, .bipush 6, 2), (19, .if_icmp .le 5, 3), (22, .iconst (-1), 1), (23, .ireturn, 1), (24, .aload_n 0, 1), (25, .iload_n 1, 1), (26, .putfield 9, 3), (29, .aload_n 0, 1), (30, .iload_n 2, 1), (31, .putfield 15, 3), (34, .aload_n 0, 1), (35, .iconst 0, 1), (36, .putfield 18, 3), (39, .iconst 0, 1), (40, .ireturn, 1)]
def qN_resize : mm_M := (⟨"EditorCore$Window", "resize", "(II)I"⟩, prog_8_method_2_code, mm_cd qN_resize_t, 3, some .int, { frames := 0, cells := 0, slots := 0, locals := 0 }, mm_fl fl_N)
theorem qN_resize_ok : mm_ok qN_resize := ⟨mm_cd_ok qN_resize_t (by decide +kernel), mm_fl_ok fl_N fl_N_ok⟩
theorem qN_resize_k : mm_LkV qN_resize 2 7 := ⟨⟨wd_456, ⟨by decide +kernel, by decide +kernel, by decide +kernel⟩, wd_8⟩, wd_454, wd_455, ⟨_, _, rfl⟩⟩
def qN_follow_t : List (Nat × Instr × Nat) := [(0, .aload_n 0, 1), (1, .aload_n 1, 1), (2, .getfield 30, 3), (5, .aload_n 1, 1), (6, .getfield 36, 3), (9, .invokevirtual 39, 3), (12, .istore_n 2, 1), (13, .aload_n 0, 1), (14, .aload_n 0, 1), (15, .getfield 18, 3), (18, .iload_n 2, 1), (19, .invokestatic 43, 3), (22, .putfield 18, 3), (25, .aload_n 0, 1), (26, .aload_n 0, 1), (27, .getfield 18, 3), (30, .iload_n 2, 1), (31, .aload_n 0, 1), (32, .getfield 15, 3), (35, .isub, 1), (36, .iconst 1, 1), (37, .iadd, 1), (38, .invokestatic 49, 3), (41, .putfield 18, 3), (44, .return_, 1)]
def qN_follow : mm_M := (⟨"EditorCore$Window", "follow", "(LEditorCore$Text;)V"⟩, prog_8_method_4_code, mm_cd qN_follow_t, 3, none, { frames := 1, cells := 0, slots := 0, locals := 38 }, mm_fl fl_N)
theorem qN_follow_ok : mm_ok qN_follow := ⟨mm_cd_ok qN_follow_t (by decide +kernel), mm_fl_ok fl_N fl_N_ok⟩
theorem qN_follow_k : mm_LkV qN_follow 1 7 := ⟨⟨wd_476, ⟨by decide +kernel, by decide +kernel, by decide +kernel⟩, wd_8⟩, wd_474, wd_475, ⟨_, _, rfl⟩⟩
def qN_rowOf_t : List (Nat × Instr × Nat) := [(0, .iconst 0, 1), (1, .istore_n 3, 1), (2, .iconst 0, 1), (3, .istore 4, 2), (5, .iconst 0, 1), (6, .istore 5, 2), (8, .iload 5, 2), (10, .iload_n 2, 1), (11, .if_icmp .ge 48, 3), (14, .iload 5, 2), (16, .aload_n 1, 1), (17, .getfield 21, 3), (20, .if_icmp .ge 39, 3), (23, .iinc 4 1, 3), (26, .iload 4, 2), (28, .aload_n 0, 1), (29, .getfield 9, 3), (32, .if_icmp .eq 15, 3), (35, .aload_n 1, 1), (36, .getfield 26, 3), (39, .iload 5, 2), (41, .iaload, 1), (42, .bipush 10, 2), (44, .if_icmp .ne 9, 3), (47, .iinc 3 1, 3), (50, .iconst 0, 1), (51, .istore 4, 2), (53, .iinc 5 1, 3), (56, .goto (-48), 3), (59, .iload_n 3, 1), (60, .ireturn, 1)]
def qN_rowOf : mm_M := (⟨"EditorCore$Window", "rowOf", "(LEditorCore$Letters;I)I"⟩, prog_8_method_3_code, mm_cd qN_rowOf_t, 6, some .int, { frames := 0, cells := 0, slots := 0, locals := 0 }, mm_fl fl_N)
theorem qN_rowOf_ok : mm_ok qN_rowOf := ⟨mm_cd_ok qN_rowOf_t (by decide +kernel), mm_fl_ok fl_N fl_N_ok⟩
theorem qN_rowOf_k : mm_LkV qN_rowOf 2 7 := ⟨⟨wd_480, ⟨by decide +kernel, by decide +kernel, by decide +kernel⟩, wd_8⟩, wd_478, wd_479, ⟨_, _, rfl⟩⟩
def qN_codeAt_t : List (Nat × Instr × Nat) := [(0, .iconst 0, 1), (1, .istore 4, 2), (3, .iconst 0, 1), (4, .istore 5, 2), (6, .iconst 0, 1), (7, .istore 6, 2), (9, .iload 6, 2), (11, .aload_n 1, 1), (12, .getfield 21, 3), (15, .if_icmp .ge 80, 3), (18, .aload_n 1, 1), (19, .getfield 26, 3), (22, .iload 6, 2), (24, .iaload, 1), (25, .bipush 10, 2), (27, .if_icmp .ne 7, 3), (30, .iconst 1, 1), (31, .goto 4, 3), (34, .iconst 0, 1), (35, .istore 7, 2), (37, .iload 4, 2), (39, .iload_n 2, 1), (40, .if_icmp .ne 26, 3), (43, .iload 5, 2), (45, .iload_n 3, 1), (46, .if_icmp .ne 20, 3), (49, .iload 7, 2), (51, .ifCond .eq 7, 3), (54, .iconst 0, 1), (55, .goto 10, 3), (58, .aload_n 1, 1), (59, .getfield 26, 3), (62, .iload 6, 2), (64, .iaload, 1), (65, .ireturn, 1), (66, .iinc 5 1, 3), (69, .iload 5, 2), (71, .aload_n 0, 1), (72, .getfield 9, 3), (75, .if_icmp .eq 8, 3), (78, .iload 7, 2), (80, .ifCond .eq 9, 3), (83, .iinc 4 1, 3), (86, .iconst 0, 1), (87, .istore 5, 2), (89, .iinc 6 1, 3), (92, .goto (-83), 3), (95, .iconst 0, 1), (96, .ireturn, 1)]
def qN_codeAt : mm_M := (⟨"EditorCore$Window", "codeAt", "(LEditorCore$Letters;II)I"⟩, prog_8_method_5_code, mm_cd qN_codeAt_t, 8, some .int, { frames := 0, cells := 0, slots := 0, locals := 0 }, mm_fl fl_N)
theorem qN_codeAt_ok : mm_ok qN_codeAt := ⟨mm_cd_ok qN_codeAt_t (by decide +kernel), mm_fl_ok fl_N fl_N_ok⟩
theorem qN_codeAt_k : mm_LkV qN_codeAt 3 7 := ⟨⟨wd_486, ⟨by decide +kernel, by decide +kernel, by decide +kernel⟩, wd_8⟩, wd_484, wd_485, ⟨_, _, rfl⟩⟩
def qY_pendingCount_t : List (Nat × Instr × Nat) := [(0, .aload_n 0, 1), (1, .getfield 22, 3), (4, .invokestatic 18, 3), (7, .istore_n 1, 1), (8, .iload_n 1, 1), (9, .sipush 4913, 3), (12, .if_icmp .ne 5, 3), (15, .iconst 0, 1), (16, .ireturn, 1), (17, .iload_n 1, 1), (18, .sipush 289, 3), (21, .if_icmp .ne 7, 3), (24, .iconst 1, 1), (25, .goto 4, 3), (28, .iconst 2, 1), (29, .ireturn, 1)]
def qY_pendingCount : mm_M := (⟨"EditorCore$Keys", "pendingCount", "()I"⟩, prog_4_method_5_code, mm_cd qY_pendingCount_t, 2, some .int, { frames := 1, cells := 0, slots := 0, locals := 38 }, mm_fl fl_Y)
theorem qY_pendingCount_ok : mm_ok qY_pendingCount := ⟨mm_cd_ok qY_pendingCount_t (by decide +kernel), mm_fl_ok fl_Y fl_Y_ok⟩
theorem qY_pendingCount_k : mm_LkV qY_pendingCount 0 5 := ⟨⟨wd_494, ⟨by decide +kernel, by decide +kernel, by decide +kernel⟩, wd_6⟩, wd_492, wd_493, ⟨_, _, rfl⟩⟩
end
section
def qE_init_t : List (Nat × Instr × Nat) := [(0, .aload_n 0, 1), (1, .invokespecial 1, 3), (4, .aload_n 0, 1), (5, .new 7, 3), (8, .dup, 1), (9, .invokespecial 9, 3), (12, .putfield 10, 3), (15, .aload_n 0, 1), (16, .new 16, 3), (19, .dup, 1), (20, .invokespecial 18, 3), (23, .putfield 19, 3), (26, .aload_n 0, 1), (27, .new 23, 3), (30, .dup, 1), (31, .invokespecial 25, 3), (34, .putfield 26, 3), (37, .aload_n 0, 1), (38, .new 30, 3), (41, .dup, 1), (42, .invokespecial 32, 3), (45, .putfield 33, 3), (48, .aload_n 0, 1), (49, .new 37, 3), (52, .dup, 1), (53, .invokespecial 39, 3), (56, .putfield 40, 3), (59, .aload_n 0, 1), (60, .new 44, 3), (63, .dup, 1), (64, .invokespecial 46, 3), (67, .putfield 47, 3), (70, .aload_n 0, 1), (71, .new 51, 3), (74, .dup, 1), (75, .invokespecial 53, 3), (78, .putfield 54, 3), (81, .aload_n 0, 1), (82, .iconst 1, 1), (83, .putfield 58, 3), (86, .aload_n 0, 1), (87, .bipush (-2), 2), (89, .putfield 62, 3), (92, .return_, 1)]
def qE_init : mm_M := (⟨"EditorCore", "<init>", "()V"⟩, prog_1_method_1_code, mm_cd qE_init_t, 1, none, { frames := 3, cells := 68, slots := 2819, locals := 114 }, mm_fl fl_E)
theorem qE_init_ok : mm_ok qE_init := ⟨mm_cd_ok qE_init_t (by decide +kernel), mm_fl_ok fl_E fl_E_ok⟩
theorem qE_init_k : mm_LkI qE_init 0 := ⟨⟨wd_16, ⟨by decide +kernel, by decide +kernel, by decide +kernel⟩, wd_1⟩, wd_15, rfl, rfl⟩
def qE_type_t : List (Nat × Instr × Nat) := [(0, .iload_n 1, 1), (1, .invokestatic 65, 3), (4, .ifCond .ne 17, 3), (7, .iload_n 1, 1), (8, .bipush 32, 2), (10, .if_icmp .eq 11, 3), (13, .iload_n 1, 1), (14, .bipush 10, 2), (16, .if_icmp .eq 5, 3), (19, .iconst (-1), 1), (20, .ireturn, 1), (21, .aload_n 0, 1), (22, .iload_n 1, 1), (23, .invokevirtual 69, 3), (26, .istore_n 2, 1), (27, .iload_n 2, 1), (28, .ifCond .lt 12, 3), (31, .aload_n 0, 1), (32, .getfield 40, 3), (35, .iload_n 1, 1), (36, .iconst 1, 1), (37, .invokevirtual 73, 3), (40, .iload_n 2, 1), (41, .ireturn, 1)]
def qE_type : mm_M := (⟨"EditorCore", "type", "(I)I"⟩, prog_1_method_2_code, mm_cd qE_type_t, 3, some .int, { frames := 4, cells := 0, slots := 0, locals := 152 }, mm_fl fl_E)
theorem qE_type_ok : mm_ok qE_type := ⟨mm_cd_ok qE_type_t (by decide +kernel), mm_fl_ok fl_E fl_E_ok⟩
theorem qE_type_k : mm_LkV qE_type 1 0 := ⟨⟨wd_214, ⟨by decide +kernel, by decide +kernel, by decide +kernel⟩, wd_1⟩, wd_212, wd_213, ⟨_, _, rfl⟩⟩
def qE_isLetter_t : List (Nat × Instr × Nat) := [(0, .iload_n 0, 1), (1, .bipush 97, 2), (3, .if_icmp .lt 13, 3), (6, .iload_n 0, 1), (7, .bipush 122, 2), (9, .if_icmp .gt 7, 3), (12, .iconst 1, 1), (13, .goto 4, 3), (16, .iconst 0, 1), (17, .ireturn, 1)]
def qE_isLetter : mm_M := (⟨"EditorCore", "isLetter", "(I)Z"⟩, prog_1_method_15_code, mm_cd qE_isLetter_t, 1, some .boolean, { frames := 0, cells := 0, slots := 0, locals := 0 }, mm_fl fl_E)
theorem qE_isLetter_ok : mm_ok qE_isLetter := ⟨mm_cd_ok qE_isLetter_t (by decide +kernel), mm_fl_ok fl_E fl_E_ok⟩
theorem qE_isLetter_k : mm_LkS qE_isLetter 1 := ⟨⟨wd_217, ⟨by decide +kernel, by decide +kernel, by decide +kernel⟩, wd_1⟩, wd_216⟩
def qE_insert_t : List (Nat × Instr × Nat) := [(0, .aload_n 0, 1), (1, .getfield 54, 3), (4, .invokevirtual 163, 3), (7, .iconst 0, 1), (8, .istore_n 2, 1), (9, .iload_n 2, 1), (10, .aload_n 0, 1), (11, .getfield 58, 3), (14, .if_icmp .ge 17, 3), (17, .aload_n 0, 1), (18, .getfield 54, 3), (21, .iload_n 1, 1), (22, .invokevirtual 166, 3), (25, .iinc 2 1, 3), (28, .goto (-19), 3), (31, .aload_n 0, 1), (32, .getfield 62, 3), (35, .bipush 100, 2), (37, .if_icmp .ne 19, 3), (40, .aload_n 0, 1), (41, .getfield 26, 3), (44, .invokevirtual 170, 3), (47, .bipush 7, 2), (49, .if_icmp .gt 7, 3), (52, .iconst 1, 1), (53, .goto 4, 3), (56, .iconst 0, 1), (57, .istore_n 2, 1), (58, .aload_n 0, 1), (59, .getfield 26, 3), (62, .aload_n 0, 1), (63, .getfield 10, 3), (66, .aload_n 0, 1), (67, .getfield 10, 3), (70, .getfield 112, 3), (73, .iconst 0, 1), (74, .aload_n 0, 1), (75, .getfield 54, 3), (78, .iload_n 2, 1), (79, .invokevirtual 173, 3), (82, .bipush (-3), 2), (84, .if_icmp .ne 6, 3), (87, .bipush (-3), 2), (89, .ireturn, 1), (90, .aload_n 0, 1), (91, .getfield 10, 3), (94, .dup, 1), (95, .getfield 112, 3), (98, .aload_n 0, 1), (99, .getfield 54, 3), (102, .getfield 125, 3), (105, .iadd, 1), (106, .putfield 112, 3), (109, .aload_n 0, 1), (110, .bipush 100, 2), (112, .invokevirtual 177, 3), (115, .iconst 0, 1), (116, .ireturn, 1)]
def qE_insert : mm_M := (⟨"EditorCore", "insert", "(I)I"⟩, prog_1_method_19_code, mm_cd qE_insert_t, 3, some .int, { frames := 3, cells := 0, slots := 0, locals := 114 }, mm_fl fl_E)
theorem qE_insert_ok : mm_ok qE_insert := ⟨mm_cd_ok qE_insert_t (by decide +kernel), mm_fl_ok fl_E fl_E_ok⟩
theorem qE_insert_k : mm_LkV qE_insert 1 0 := ⟨⟨wd_221, ⟨by decide +kernel, by decide +kernel, by decide +kernel⟩, wd_1⟩, wd_220, ws_0, ⟨_, _, rfl⟩⟩
def qE_finish_t : List (Nat × Instr × Nat) := [(0, .aload_n 0, 1), (1, .iload_n 1, 1), (2, .putfield 62, 3), (5, .aload_n 0, 1), (6, .iconst 1, 1), (7, .putfield 58, 3), (10, .return_, 1)]
def qE_finish : mm_M := (⟨"EditorCore", "finish", "(I)V"⟩, prog_1_method_18_code, mm_cd qE_finish_t, 2, none, { frames := 0, cells := 0, slots := 0, locals := 0 }, mm_fl fl_E)
theorem qE_finish_ok : mm_ok qE_finish := ⟨mm_cd_ok qE_finish_t (by decide +kernel), mm_fl_ok fl_E fl_E_ok⟩
theorem qE_finish_k : mm_LkV qE_finish 1 0 := ⟨⟨wd_267, ⟨by decide +kernel, by decide +kernel, by decide +kernel⟩, wd_1⟩, wd_266, ws_1, ⟨_, _, rfl⟩⟩
def qE_command_t : List (Nat × Instr × Nat) := [(0, .iload_n 1, 1), (1, .ifCond .lt 9, 3), (4, .iload_n 1, 1), (5, .bipush 21, 2), (7, .if_icmp .le 5, 3), (10, .iconst (-1), 1), (11, .ireturn, 1), (12, .iload_n 1, 1), (13, .bipush 21, 2), (15, .if_icmp .ne 10, 3), (18, .aload_n 0, 1), (19, .invokevirtual 77, 3), (22, .goto 8, 3), (25, .aload_n 0, 1), (26, .iload_n 1, 1), (27, .invokevirtual 81, 3), (30, .ireturn, 1)]
def qE_command : mm_M := (⟨"EditorCore", "command", "(I)I"⟩, prog_1_method_3_code, mm_cd qE_command_t, 2, some .int, { frames := 8, cells := 0, slots := 0, locals := 304 }, mm_fl fl_E)
theorem qE_command_ok : mm_ok qE_command := ⟨mm_cd_ok qE_command_t (by decide +kernel), mm_fl_ok fl_E fl_E_ok⟩
theorem qE_command_k : mm_LkV qE_command 1 0 := ⟨⟨wd_275, ⟨by decide +kernel, by decide +kernel, by decide +kernel⟩, wd_1⟩, wd_273, wd_274, ⟨_, _, rfl⟩⟩
def qE_replay_t : List (Nat × Instr × Nat) := [(0, .aload_n 0, 1), (1, .getfield 40, 3), (4, .getfield 101, 3), (7, .ifCond .ne 13, 3), (10, .aload_n 0, 1), (11, .getfield 40, 3), (14, .getfield 105, 3), (17, .ifCond .ne 6, 3), (20, .bipush (-2), 2), (22, .ireturn, 1), (23, .aload_n 0, 1), (24, .getfield 58, 3), (27, .istore_n 1, 1), (28, .aload_n 0, 1), (29, .iconst 1, 1), (30, .putfield 58, 3), (33, .iconst 0, 1), (34, .istore_n 2, 1), (35, .iconst 0, 1), (36, .istore_n 3, 1), (37, .iconst 0, 1), (38, .istore 4, 2), (40, .iload 4, 2), (42, .iload_n 1, 1), (43, .if_icmp .ge 93, 3), (46, .iload_n 3, 1), (47, .ifCond .lt 89, 3), (50, .iconst 0, 1), (51, .istore 5, 2), (53, .iload 5, 2), (55, .aload_n 0, 1), (56, .getfield 40, 3), (59, .getfield 105, 3), (62, .if_icmp .ge 68, 3), (65, .iload_n 3, 1), (66, .ifCond .lt 64, 3), (69, .aload_n 0, 1), (70, .getfield 40, 3), (73, .getfield 180, 3), (76, .iload 5, 2), (78, .iaload, 1), (79, .istore 6, 2), (81, .aload_n 0, 1), (82, .getfield 40, 3), (85, .getfield 181, 3), (88, .iload 5, 2), (90, .baload, 1), (91, .ifCond .eq 12, 3), (94, .aload_n 0, 1), (95, .iload 6, 2), (97, .invokevirtual 69, 3), (100, .goto 16, 3), (103, .aload_n 0, 1), (104, .aload_n 0, 1), (105, .getfield 33, 3), (108, .iload 6, 2), (110, .invokevirtual 98, 3), (113, .invokevirtual 81, 3), (116, .istore_n 3, 1), (117, .iload_n 3, 1), (118, .ifCond .lt 6, 3), (121, .iinc 2 1, 3), (124, .iinc 5 1, 3), (127, .goto (-74), 3), (130, .iinc 4 1, 3), (133, .goto (-93), 3), (136, .iload_n 2, 1), (137, .ifCond .ne 9, 3), (140, .aload_n 0, 1), (141, .bipush 21, 2), (143, .invokevirtual 177, 3), (146, .iload_n 2, 1), (147, .ireturn, 1)]
def qE_replay : mm_M := (⟨"EditorCore", "replay", "()I"⟩, prog_1_method_20_code, mm_cd qE_replay_t, 7, some .int, { frames := 7, cells := 0, slots := 0, locals := 266 }, mm_fl fl_E)
theorem qE_replay_ok : mm_ok qE_replay := ⟨mm_cd_ok qE_replay_t (by decide +kernel), mm_fl_ok fl_E fl_E_ok⟩
theorem qE_replay_k : mm_LkV qE_replay 0 0 := ⟨⟨wd_279, ⟨by decide +kernel, by decide +kernel, by decide +kernel⟩, wd_1⟩, wd_278, ws_2, ⟨_, _, rfl⟩⟩
def qE_perform_t : List (Nat × Instr × Nat) := [(0, .iload_n 1, 1), (1, .ifCond .lt 9, 3), (4, .iload_n 1, 1), (5, .bipush 21, 2), (7, .if_icmp .le 5, 3), (10, .iload_n 1, 1), (11, .ireturn, 1), (12, .aload_n 0, 1), (13, .iload_n 1, 1), (14, .invokevirtual 184, 3), (17, .istore_n 2, 1), (18, .iload_n 2, 1), (19, .ifCond .lt 8, 3), (22, .aload_n 0, 1), (23, .iload_n 1, 1), (24, .invokevirtual 177, 3), (27, .iload_n 2, 1), (28, .ireturn, 1)]
def qE_perform : mm_M := (⟨"EditorCore", "perform", "(I)I"⟩, prog_1_method_21_code, mm_cd qE_perform_t, 3, some .int, { frames := 6, cells := 0, slots := 0, locals := 228 }, mm_fl fl_E)
theorem qE_perform_ok : mm_ok qE_perform := ⟨mm_cd_ok qE_perform_t (by decide +kernel), mm_fl_ok fl_E fl_E_ok⟩
theorem qE_perform_k : mm_LkV qE_perform 1 0 := ⟨⟨wd_293, ⟨by decide +kernel, by decide +kernel, by decide +kernel⟩, wd_1⟩, wd_292, ws_3, ⟨_, _, rfl⟩⟩
def qE_carryOut_t : List (Nat × Instr × Nat) := [(0, .iload_n 1, 1), (1, .tableswitch 485 0 20 #[99, 129, 150, 173, 196, 215, 234, 257, 280, 317, 345, 384, 398, 411, 425, 430, 442, 447, 452, 475, 480], 99), (100, .aload_n 0, 1), (101, .aload_n 0, 1), (102, .getfield 10, 3), (105, .getfield 112, 3), (108, .aload_n 0, 1), (109, .getfield 58, 3), (112, .iadd, 1), (113, .aload_n 0, 1), (114, .getfield 10, 3), (117, .getfield 122, 3), (120, .getfield 125, 3), (123, .invokestatic 187, 3), (126, .invokevirtual 192, 3), (129, .ireturn, 1), (130, .aload_n 0, 1), (131, .aload_n 0, 1), (132, .getfield 10, 3), (135, .getfield 112, 3), (138, .aload_n 0, 1), (139, .getfield 58, 3), (142, .isub, 1), (143, .iconst 0, 1), (144, .invokestatic 195, 3), (147, .invokevirtual 192, 3), (150, .ireturn, 1), (151, .aload_n 0, 1), (152, .aload_n 0, 1), (153, .getfield 10, 3), (156, .aload_n 0, 1), (157, .getfield 10, 3), (160, .getfield 112, 3), (163, .aload_n 0, 1), (164, .getfield 58, 3), (167, .invokevirtual 198, 3), (170, .invokevirtual 201, 3), (173, .ireturn, 1), (174, .aload_n 0, 1), (175, .aload_n 0, 1), (176, .getfield 10, 3), (179, .aload_n 0, 1), (180, .getfield 10, 3), (183, .getfield 112, 3), (186, .aload_n 0, 1), (187, .getfield 58, 3), (190, .invokevirtual 204, 3), (193, .invokevirtual 201, 3), (196, .ireturn, 1), (197, .aload_n 0, 1), (198, .aload_n 0, 1), (199, .getfield 10, 3), (202, .aload_n 0, 1), (203, .getfield 10, 3), (206, .getfield 112, 3), (209, .invokevirtual 207, 3), (212, .invokevirtual 192, 3), (215, .ireturn, 1), (216, .aload_n 0, 1), (217, .aload_n 0, 1), (218, .getfield 10, 3), (221, .aload_n 0, 1), (222, .getfield 10, 3), (225, .getfield 112, 3), (228, .invokevirtual 210, 3), (231, .invokevirtual 192, 3), (234, .ireturn, 1), (235, .aload_n 0, 1), (236, .aload_n 0, 1), (237, .getfield 10, 3), (240, .aload_n 0, 1), (241, .getfield 10, 3), (244, .getfield 112, 3), (247, .aload_n 0, 1), (248, .getfield 58, 3), (251, .invokevirtual 213, 3), (254, .invokevirtual 192, 3), (257, .ireturn, 1), (258, .aload_n 0, 1), (259, .aload_n 0, 1), (260, .getfield 10, 3), (263, .aload_n 0, 1), (264, .getfield 10, 3), (267, .getfield 112, 3), (270, .aload_n 0, 1), (271, .getfield 58, 3), (274, .invokevirtual 216, 3), (277, .invokevirtual 192, 3), (280, .ireturn, 1), (281, .aload_n 0, 1), (282, .aload_n 0, 1), (283, .getfield 10, 3), (286, .getfield 112, 3), (289, .aload_n 0, 1), (290, .getfield 10, 3), (293, .getfield 112, 3), (296, .aload_n 0, 1), (297, .getfield 58, 3), (300, .iadd, 1), (301, .aload_n 0, 1), (302, .getfield 10, 3), (305, .getfield 122, 3), (308, .getfield 125, 3), (311, .invokestatic 187, 3), (314, .invokevirtual 219, 3), (317, .ireturn, 1), (318, .aload_n 0, 1), (319, .aload_n 0, 1), (320, .getfield 10, 3), (323, .getfield 112, 3), (326, .aload_n 0, 1), (327, .getfield 58, 3), (330, .isub, 1), (331, .iconst 0, 1), (332, .invokestatic 195, 3), (335, .aload_n 0, 1), (336, .getfield 10, 3), (339, .getfield 112, 3), (342, .invokevirtual 219, 3), (345, .ireturn, 1), (346, .aload_n 0, 1), (347, .aload_n 0, 1), (348, .getfield 10, 3), (351, .getfield 112, 3), (354, .aload_n 0, 1), (355, .invokevirtual 222, 3), (358, .aload_n 0, 1), (359, .getfield 62, 3), (362, .bipush 10, 2), (364, .if_icmp .eq 12, 3), (367, .aload_n 0, 1), (368, .getfield 62, 3), (371, .bipush 11, 2), (373, .if_icmp .ne 7, 3), (376, .iconst 1, 1), (377, .goto 4, 3), (380, .iconst 0, 1), (381, .invokevirtual 225, 3), (384, .ireturn, 1), (385, .aload_n 0, 1), (386, .aload_n 0, 1), (387, .invokevirtual 229, 3), (390, .aload_n 0, 1), (391, .invokevirtual 232, 3), (394, .iconst 0, 1), (395, .invokevirtual 225, 3), (398, .ireturn, 1), (399, .aload_n 0, 1), (400, .aload_n 0, 1), (401, .invokevirtual 229, 3), (404, .aload_n 0, 1), (405, .invokevirtual 232, 3), (408, .invokevirtual 235, 3), (411, .ireturn, 1), (412, .aload_n 0, 1), (413, .iconst 0, 1), (414, .aload_n 0, 1), (415, .getfield 10, 3), (418, .getfield 112, 3), (421, .iconst 0, 1), (422, .invokevirtual 238, 3), (425, .ireturn, 1), (426, .aload_n 0, 1), (427, .invokevirtual 241, 3), (430, .ireturn, 1), (431, .aload_n 0, 1), (432, .aload_n 0, 1), (433, .getfield 10, 3), (436, .getfield 112, 3), (439, .invokevirtual 244, 3), (442, .ireturn, 1), (443, .aload_n 0, 1), (444, .invokevirtual 247, 3), (447, .ireturn, 1), (448, .aload_n 0, 1), (449, .invokevirtual 250, 3), (452, .ireturn, 1), (453, .aload_n 0, 1), (454, .getfield 10, 3), (457, .iconst 0, 1), (458, .putfield 112, 3), (461, .aload_n 0, 1), (462, .aload_n 0, 1), (463, .getfield 10, 3), (466, .getfield 122, 3), (469, .getfield 125, 3), (472, .invokevirtual 244, 3), (475, .ireturn, 1), (476, .aload_n 0, 1), (477, .invokevirtual 253, 3), (480, .ireturn, 1), (481, .aload_n 0, 1), (482, .invokevirtual 256, 3), (485, .ireturn, 1), (486, .bipush (-2), 2), (488, .ireturn, 1)]
def qE_carryOut : mm_M := (⟨"EditorCore", "carryOut", "(I)I"⟩, prog_1_method_22_code, mm_cd qE_carryOut_t, 2, some .int, { frames := 5, cells := 0, slots := 0, locals := 190 }, mm_fl fl_E)
theorem qE_carryOut_ok : mm_ok qE_carryOut := ⟨mm_cd_ok qE_carryOut_t (by decide +kernel), mm_fl_ok fl_E fl_E_ok⟩
theorem qE_carryOut_k : mm_LkV qE_carryOut 1 0 := ⟨⟨wd_297, ⟨by decide +kernel, by decide +kernel, by decide +kernel⟩, wd_1⟩, wd_296, ws_4, ⟨_, _, rfl⟩⟩
def qE_moveTo_t : List (Nat × Instr × Nat) := [(0, .aload_n 0, 1), (1, .getfield 10, 3), (4, .iload_n 1, 1), (5, .putfield 112, 3), (8, .iconst 0, 1), (9, .ireturn, 1)]
def qE_moveTo : mm_M := (⟨"EditorCore", "moveTo", "(I)I"⟩, prog_1_method_23_code, mm_cd qE_moveTo_t, 2, some .int, { frames := 0, cells := 0, slots := 0, locals := 0 }, mm_fl fl_E)
theorem qE_moveTo_ok : mm_ok qE_moveTo := ⟨mm_cd_ok qE_moveTo_t (by decide +kernel), mm_fl_ok fl_E fl_E_ok⟩
theorem qE_moveTo_k : mm_LkV qE_moveTo 1 0 := ⟨⟨wd_304, ⟨by decide +kernel, by decide +kernel, by decide +kernel⟩, wd_1⟩, wd_303, ws_5, ⟨_, _, rfl⟩⟩
def qE_moveToGoal_t : List (Nat × Instr × Nat) := [(0, .aload_n 0, 1), (1, .getfield 62, 3), (4, .iconst 2, 1), (5, .if_icmp .eq 37, 3), (8, .aload_n 0, 1), (9, .getfield 62, 3), (12, .iconst 3, 1), (13, .if_icmp .eq 29, 3), (16, .aload_n 0, 1), (17, .aload_n 0, 1), (18, .getfield 10, 3), (21, .getfield 112, 3), (24, .aload_n 0, 1), (25, .getfield 10, 3), (28, .aload_n 0, 1), (29, .getfield 10, 3), (32, .getfield 112, 3), (35, .invokevirtual 207, 3), (38, .isub, 1), (39, .putfield 259, 3), (42, .aload_n 0, 1), (43, .iload_n 1, 1), (44, .aload_n 0, 1), (45, .getfield 259, 3), (48, .iadd, 1), (49, .aload_n 0, 1), (50, .getfield 10, 3), (53, .iload_n 1, 1), (54, .invokevirtual 210, 3), (57, .invokestatic 187, 3), (60, .invokevirtual 192, 3), (63, .ireturn, 1)]
def qE_moveToGoal : mm_M := (⟨"EditorCore", "moveToGoal", "(I)I"⟩, prog_1_method_24_code, mm_cd qE_moveToGoal_t, 2, some .int, { frames := 1, cells := 0, slots := 0, locals := 38 }, mm_fl fl_E)
theorem qE_moveToGoal_ok : mm_ok qE_moveToGoal := ⟨mm_cd_ok qE_moveToGoal_t (by decide +kernel), mm_fl_ok fl_E fl_E_ok⟩
theorem qE_moveToGoal_k : mm_LkV qE_moveToGoal 1 0 := ⟨⟨wd_323, ⟨by decide +kernel, by decide +kernel, by decide +kernel⟩, wd_1⟩, wd_322, ws_6, ⟨_, _, rfl⟩⟩
def qE_takeOut_t : List (Nat × Instr × Nat) := [(0, .iload_n 1, 1), (1, .iload_n 2, 1), (2, .if_icmp .lt 6, 3), (5, .bipush (-2), 2), (7, .ireturn, 1), (8, .aload_n 0, 1), (9, .getfield 54, 3), (12, .invokevirtual 163, 3), (15, .aload_n 0, 1), (16, .getfield 26, 3), (19, .aload_n 0, 1), (20, .getfield 10, 3), (23, .iload_n 1, 1), (24, .iload_n 2, 1), (25, .iload_n 1, 1), (26, .isub, 1), (27, .aload_n 0, 1), (28, .getfield 54, 3), (31, .iconst 0, 1), (32, .invokevirtual 173, 3), (35, .pop, 1), (36, .aload_n 0, 1), (37, .iload_n 1, 1), (38, .invokevirtual 192, 3), (41, .ireturn, 1)]
def qE_takeOut : mm_M := (⟨"EditorCore", "takeOut", "(II)I"⟩, prog_1_method_25_code, mm_cd qE_takeOut_t, 3, some .int, { frames := 3, cells := 0, slots := 0, locals := 114 }, mm_fl fl_E)
theorem qE_takeOut_ok : mm_ok qE_takeOut := ⟨mm_cd_ok qE_takeOut_t (by decide +kernel), mm_fl_ok fl_E fl_E_ok⟩
theorem qE_takeOut_k : mm_LkV qE_takeOut 2 0 := ⟨⟨wd_342, ⟨by decide +kernel, by decide +kernel, by decide +kernel⟩, wd_1⟩, wd_341, ws_7, ⟨_, _, rfl⟩⟩
def qE_lineKillEnd_t : List (Nat × Instr × Nat) := [(0, .aload_n 0, 1), (1, .getfield 10, 3), (4, .aload_n 0, 1), (5, .getfield 10, 3), (8, .getfield 112, 3), (11, .invokevirtual 210, 3), (14, .istore_n 1, 1), (15, .iload_n 1, 1), (16, .aload_n 0, 1), (17, .getfield 10, 3), (20, .getfield 112, 3), (23, .if_icmp .le 7, 3), (26, .iload_n 1, 1), (27, .goto 19, 3), (30, .iload_n 1, 1), (31, .iconst 1, 1), (32, .iadd, 1), (33, .aload_n 0, 1), (34, .getfield 10, 3), (37, .getfield 122, 3), (40, .getfield 125, 3), (43, .invokestatic 187, 3), (46, .ireturn, 1)]
def qE_lineKillEnd : mm_M := (⟨"EditorCore", "lineKillEnd", "()I"⟩, prog_1_method_26_code, mm_cd qE_lineKillEnd_t, 2, some .int, { frames := 1, cells := 0, slots := 0, locals := 38 }, mm_fl fl_E)
theorem qE_lineKillEnd_ok : mm_ok qE_lineKillEnd := ⟨mm_cd_ok qE_lineKillEnd_t (by decide +kernel), mm_fl_ok fl_E fl_E_ok⟩
theorem qE_lineKillEnd_k : mm_LkV qE_lineKillEnd 0 0 := ⟨⟨wd_346, ⟨by decide +kernel, by decide +kernel, by decide +kernel⟩, wd_1⟩, wd_345, ws_8, ⟨_, _, rfl⟩⟩
def qE_kill_t : List (Nat × Instr × Nat) := [(0, .iload_n 1, 1), (1, .iload_n 2, 1), (2, .if_icmp .lt 6, 3), (5, .bipush (-2), 2), (7, .ireturn, 1), (8, .aload_n 0, 1), (9, .getfield 19, 3), (12, .aload_n 0, 1), (13, .getfield 10, 3), (16, .getfield 122, 3), (19, .iload_n 1, 1), (20, .iload_n 2, 1), (21, .iload_n 3, 1), (22, .invokevirtual 262, 3), (25, .aload_n 0, 1), (26, .getfield 54, 3), (29, .invokevirtual 163, 3), (32, .aload_n 0, 1), (33, .getfield 26, 3), (36, .aload_n 0, 1), (37, .getfield 10, 3), (40, .iload_n 1, 1), (41, .iload_n 2, 1), (42, .iload_n 1, 1), (43, .isub, 1), (44, .aload_n 0, 1), (45, .getfield 54, 3), (48, .iconst 0, 1), (49, .invokevirtual 173, 3), (52, .pop, 1), (53, .aload_n 0, 1), (54, .iload_n 1, 1), (55, .invokevirtual 192, 3), (58, .ireturn, 1)]
def qE_kill : mm_M := (⟨"EditorCore", "kill", "(IIZ)I"⟩, prog_1_method_29_code, mm_cd qE_kill_t, 4, some .int, { frames := 3, cells := 0, slots := 0, locals := 114 }, mm_fl fl_E)
theorem qE_kill_ok : mm_ok qE_kill := ⟨mm_cd_ok qE_kill_t (by decide +kernel), mm_fl_ok fl_E fl_E_ok⟩
theorem qE_kill_k : mm_LkV qE_kill 3 0 := ⟨⟨wd_350, ⟨by decide +kernel, by decide +kernel, by decide +kernel⟩, wd_1⟩, wd_349, ws_9, ⟨_, _, rfl⟩⟩
def qE_regionBeginning_t : List (Nat × Instr × Nat) := [(0, .aload_n 0, 1), (1, .getfield 10, 3), (4, .getfield 108, 3), (7, .iconst 4, 1), (8, .iaload, 1), (9, .istore_n 1, 1), (10, .iload_n 1, 1), (11, .bipush (-2), 2), (13, .if_icmp .ne 13, 3), (16, .aload_n 0, 1), (17, .getfield 10, 3), (20, .getfield 112, 3), (23, .goto 14, 3), (26, .iload_n 1, 1), (27, .aload_n 0, 1), (28, .getfield 10, 3), (31, .getfield 112, 3), (34, .invokestatic 187, 3), (37, .ireturn, 1)]
def qE_regionBeginning : mm_M := (⟨"EditorCore", "regionBeginning", "()I"⟩, prog_1_method_27_code, mm_cd qE_regionBeginning_t, 2, some .int, { frames := 1, cells := 0, slots := 0, locals := 38 }, mm_fl fl_E)
theorem qE_regionBeginning_ok : mm_ok qE_regionBeginning := ⟨mm_cd_ok qE_regionBeginning_t (by decide +kernel), mm_fl_ok fl_E fl_E_ok⟩
theorem qE_regionBeginning_k : mm_LkV qE_regionBeginning 0 0 := ⟨⟨wd_365, ⟨by decide +kernel, by decide +kernel, by decide +kernel⟩, wd_1⟩, wd_364, ws_11, ⟨_, _, rfl⟩⟩
def qE_regionEnd_t : List (Nat × Instr × Nat) := [(0, .aload_n 0, 1), (1, .getfield 10, 3), (4, .getfield 108, 3), (7, .iconst 4, 1), (8, .iaload, 1), (9, .aload_n 0, 1), (10, .getfield 10, 3), (13, .getfield 112, 3), (16, .invokestatic 195, 3), (19, .ireturn, 1)]
def qE_regionEnd : mm_M := (⟨"EditorCore", "regionEnd", "()I"⟩, prog_1_method_28_code, mm_cd qE_regionEnd_t, 1, some .int, { frames := 1, cells := 0, slots := 0, locals := 38 }, mm_fl fl_E)
theorem qE_regionEnd_ok : mm_ok qE_regionEnd := ⟨mm_cd_ok qE_regionEnd_t (by decide +kernel), mm_fl_ok fl_E fl_E_ok⟩
theorem qE_regionEnd_k : mm_LkV qE_regionEnd 0 0 := ⟨⟨wd_369, ⟨by decide +kernel, by decide +kernel, by decide +kernel⟩, wd_1⟩, wd_368, ws_12, ⟨_, _, rfl⟩⟩
def qE_copy_t : List (Nat × Instr × Nat) := [(0, .iload_n 1, 1), (1, .iload_n 2, 1), (2, .if_icmp .lt 6, 3), (5, .bipush (-2), 2), (7, .ireturn, 1), (8, .aload_n 0, 1), (9, .getfield 19, 3), (12, .aload_n 0, 1), (13, .getfield 10, 3), (16, .getfield 122, 3), (19, .iload_n 1, 1), (20, .iload_n 2, 1), (21, .iconst 0, 1), (22, .invokevirtual 262, 3), (25, .iconst 0, 1), (26, .ireturn, 1)]
def qE_copy : mm_M := (⟨"EditorCore", "copy", "(II)I"⟩, prog_1_method_30_code, mm_cd qE_copy_t, 3, some .int, { frames := 3, cells := 0, slots := 0, locals := 114 }, mm_fl fl_E)
theorem qE_copy_ok : mm_ok qE_copy := ⟨mm_cd_ok qE_copy_t (by decide +kernel), mm_fl_ok fl_E fl_E_ok⟩
theorem qE_copy_k : mm_LkV qE_copy 2 0 := ⟨⟨wd_373, ⟨by decide +kernel, by decide +kernel, by decide +kernel⟩, wd_1⟩, wd_372, ws_13, ⟨_, _, rfl⟩⟩
def qE_putKill_t : List (Nat × Instr × Nat) := [(0, .iload_n 1, 1), (1, .aload_n 0, 1), (2, .getfield 19, 3), (5, .getfield 129, 3), (8, .if_icmp .lt 6, 3), (11, .bipush (-2), 2), (13, .ireturn, 1), (14, .aload_n 0, 1), (15, .getfield 19, 3), (18, .getfield 132, 3), (21, .iload_n 1, 1), (22, .aaload, 1), (23, .astore 4, 2), (25, .aload_n 0, 1), (26, .getfield 26, 3), (29, .aload_n 0, 1), (30, .getfield 10, 3), (33, .iload_n 2, 1), (34, .iload_n 3, 1), (35, .aload 4, 2), (37, .iconst 0, 1), (38, .invokevirtual 173, 3), (41, .bipush (-3), 2), (43, .if_icmp .ne 6, 3), (46, .bipush (-3), 2), (48, .ireturn, 1), (49, .aload_n 0, 1), (50, .iload_n 1, 1), (51, .putfield 266, 3), (54, .aload_n 0, 1), (55, .getfield 10, 3), (58, .iload_n 2, 1), (59, .aload 4, 2), (61, .getfield 125, 3), (64, .iadd, 1), (65, .putfield 112, 3), (68, .aload_n 0, 1), (69, .iload_n 2, 1), (70, .invokevirtual 244, 3), (73, .ireturn, 1)]
def qE_putKill : mm_M := (⟨"EditorCore", "putKill", "(III)I"⟩, prog_1_method_31_code, mm_cd qE_putKill_t, 5, some .int, { frames := 3, cells := 0, slots := 0, locals := 114 }, mm_fl fl_E)
theorem qE_putKill_ok : mm_ok qE_putKill := ⟨mm_cd_ok qE_putKill_t (by decide +kernel), mm_fl_ok fl_E fl_E_ok⟩
theorem qE_putKill_k : mm_LkV qE_putKill 3 0 := ⟨⟨wd_377, ⟨by decide +kernel, by decide +kernel, by decide +kernel⟩, wd_1⟩, wd_376, ws_14, ⟨_, _, rfl⟩⟩
def qE_setMark_t : List (Nat × Instr × Nat) := [(0, .aload_n 0, 1), (1, .getfield 10, 3), (4, .getfield 108, 3), (7, .iconst 4, 1), (8, .iload_n 1, 1), (9, .iastore, 1), (10, .iconst 0, 1), (11, .ireturn, 1)]
def qE_setMark : mm_M := (⟨"EditorCore", "setMark", "(I)I"⟩, prog_1_method_33_code, mm_cd qE_setMark_t, 2, some .int, { frames := 0, cells := 0, slots := 0, locals := 0 }, mm_fl fl_E)
theorem qE_setMark_ok : mm_ok qE_setMark := ⟨mm_cd_ok qE_setMark_t (by decide +kernel), mm_fl_ok fl_E fl_E_ok⟩
theorem qE_setMark_k : mm_LkV qE_setMark 1 0 := ⟨⟨wd_381, ⟨by decide +kernel, by decide +kernel, by decide +kernel⟩, wd_1⟩, wd_380, ws_15, ⟨_, _, rfl⟩⟩
def qE_putOlderKill_t : List (Nat × Instr × Nat) := [(0, .aload_n 0, 1), (1, .getfield 62, 3), (4, .bipush 13, 2), (6, .if_icmp .eq 15, 3), (9, .aload_n 0, 1), (10, .getfield 62, 3), (13, .bipush 14, 2), (15, .if_icmp .eq 6, 3), (18, .bipush (-2), 2), (20, .ireturn, 1), (21, .aload_n 0, 1), (22, .getfield 266, 3), (25, .iconst 1, 1), (26, .iadd, 1), (27, .aload_n 0, 1), (28, .getfield 19, 3), (31, .getfield 129, 3), (34, .if_icmp .ge 12, 3), (37, .aload_n 0, 1), (38, .getfield 266, 3), (41, .iconst 1, 1), (42, .iadd, 1), (43, .goto 4, 3), (46, .iconst 0, 1), (47, .istore_n 1, 1), (48, .aload_n 0, 1), (49, .getfield 10, 3), (52, .getfield 108, 3), (55, .iconst 4, 1), (56, .iaload, 1), (57, .istore_n 2, 1), (58, .aload_n 0, 1), (59, .iload_n 1, 1), (60, .iload_n 2, 1), (61, .aload_n 0, 1), (62, .getfield 10, 3), (65, .getfield 112, 3), (68, .iload_n 2, 1), (69, .isub, 1), (70, .invokevirtual 238, 3), (73, .ireturn, 1)]
def qE_putOlderKill : mm_M := (⟨"EditorCore", "putOlderKill", "()I"⟩, prog_1_method_32_code, mm_cd qE_putOlderKill_t, 3, some .int, { frames := 4, cells := 0, slots := 0, locals := 152 }, mm_fl fl_E)
theorem qE_putOlderKill_ok : mm_ok qE_putOlderKill := ⟨mm_cd_ok qE_putOlderKill_t (by decide +kernel), mm_fl_ok fl_E fl_E_ok⟩
theorem qE_putOlderKill_k : mm_LkV qE_putOlderKill 0 0 := ⟨⟨wd_385, ⟨by decide +kernel, by decide +kernel, by decide +kernel⟩, wd_1⟩, wd_384, ws_16, ⟨_, _, rfl⟩⟩
def qE_swapMark_t : List (Nat × Instr × Nat) := [(0, .aload_n 0, 1), (1, .getfield 10, 3), (4, .getfield 108, 3), (7, .iconst 4, 1), (8, .iaload, 1), (9, .istore_n 1, 1), (10, .iload_n 1, 1), (11, .bipush (-2), 2), (13, .if_icmp .ne 6, 3), (16, .bipush (-2), 2), (18, .ireturn, 1), (19, .aload_n 0, 1), (20, .aload_n 0, 1), (21, .getfield 10, 3), (24, .getfield 112, 3), (27, .invokevirtual 244, 3), (30, .pop, 1), (31, .aload_n 0, 1), (32, .iload_n 1, 1), (33, .invokevirtual 192, 3), (36, .ireturn, 1)]
def qE_swapMark : mm_M := (⟨"EditorCore", "swapMark", "()I"⟩, prog_1_method_34_code, mm_cd qE_swapMark_t, 2, some .int, { frames := 1, cells := 0, slots := 0, locals := 38 }, mm_fl fl_E)
theorem qE_swapMark_ok : mm_ok qE_swapMark := ⟨mm_cd_ok qE_swapMark_t (by decide +kernel), mm_fl_ok fl_E fl_E_ok⟩
theorem qE_swapMark_k : mm_LkV qE_swapMark 0 0 := ⟨⟨wd_389, ⟨by decide +kernel, by decide +kernel, by decide +kernel⟩, wd_1⟩, wd_388, ws_17, ⟨_, _, rfl⟩⟩
def qE_swapCharacters_t : List (Nat × Instr × Nat) := [(0, .aload_n 0, 1), (1, .getfield 10, 3), (4, .getfield 112, 3), (7, .istore_n 1, 1), (8, .iload_n 1, 1), (9, .iconst 1, 1), (10, .if_icmp .lt 17, 3), (13, .iload_n 1, 1), (14, .aload_n 0, 1), (15, .getfield 10, 3), (18, .getfield 122, 3), (21, .getfield 125, 3), (24, .if_icmp .lt 6, 3), (27, .bipush (-2), 2), (29, .ireturn, 1), (30, .aload_n 0, 1), (31, .getfield 54, 3), (34, .invokevirtual 163, 3), (37, .aload_n 0, 1), (38, .getfield 54, 3), (41, .aload_n 0, 1), (42, .getfield 10, 3), (45, .getfield 122, 3), (48, .getfield 126, 3), (51, .iload_n 1, 1), (52, .iaload, 1), (53, .invokevirtual 166, 3), (56, .aload_n 0, 1), (57, .getfield 54, 3), (60, .aload_n 0, 1), (61, .getfield 10, 3), (64, .getfield 122, 3), (67, .getfield 126, 3), (70, .iload_n 1, 1), (71, .iconst 1, 1), (72, .isub, 1), (73, .iaload, 1), (74, .invokevirtual 166, 3), (77, .aload_n 0, 1), (78, .getfield 26, 3), (81, .aload_n 0, 1), (82, .getfield 10, 3), (85, .iload_n 1, 1), (86, .iconst 1, 1), (87, .isub, 1), (88, .iconst 2, 1), (89, .aload_n 0, 1), (90, .getfield 54, 3), (93, .iconst 0, 1), (94, .invokevirtual 173, 3), (97, .pop, 1), (98, .aload_n 0, 1), (99, .iload_n 1, 1), (100, .iconst 1, 1), (101, .iadd, 1), (102, .invokevirtual 192, 3), (105, .ireturn, 1)]
def qE_swapCharacters : mm_M := (⟨"EditorCore", "swapCharacters", "()I"⟩, prog_1_method_35_code, mm_cd qE_swapCharacters_t, 2, some .int, { frames := 3, cells := 0, slots := 0, locals := 114 }, mm_fl fl_E)
theorem qE_swapCharacters_ok : mm_ok qE_swapCharacters := ⟨mm_cd_ok qE_swapCharacters_t (by decide +kernel), mm_fl_ok fl_E fl_E_ok⟩
theorem qE_swapCharacters_k : mm_LkV qE_swapCharacters 0 0 := ⟨⟨wd_393, ⟨by decide +kernel, by decide +kernel, by decide +kernel⟩, wd_1⟩, wd_392, ws_18, ⟨_, _, rfl⟩⟩
def qE_undo_t : List (Nat × Instr × Nat) := [(0, .aload_n 0, 1), (1, .getfield 62, 3), (4, .bipush 19, 2), (6, .if_icmp .ne 12, 3), (9, .aload_n 0, 1), (10, .getfield 269, 3), (13, .iconst 1, 1), (14, .isub, 1), (15, .goto 10, 3), (18, .aload_n 0, 1), (19, .getfield 26, 3), (22, .getfield 152, 3), (25, .istore_n 1, 1), (26, .aload_n 0, 1), (27, .getfield 26, 3), (30, .iload_n 1, 1), (31, .invokevirtual 272, 3), (34, .ifCond .ne 6, 3), (37, .bipush (-2), 2), (39, .ireturn, 1), (40, .iload_n 1, 1), (41, .invokestatic 275, 3), (44, .istore_n 2, 1), (45, .aload_n 0, 1), (46, .getfield 26, 3), (49, .getfield 278, 3), (52, .iload_n 2, 1), (53, .iaload, 1), (54, .istore_n 3, 1), (55, .aload_n 0, 1), (56, .getfield 26, 3), (59, .getfield 281, 3), (62, .iload_n 2, 1), (63, .aaload, 1), (64, .astore 4, 2), (66, .aload_n 0, 1), (67, .getfield 54, 3), (70, .invokevirtual 163, 3), (73, .aload_n 0, 1), (74, .getfield 54, 3), (77, .aload 4, 2), (79, .iconst 0, 1), (80, .aload 4, 2), (82, .getfield 125, 3), (85, .invokevirtual 284, 3), (88, .aload_n 0, 1), (89, .getfield 26, 3), (92, .aload_n 0, 1), (93, .getfield 10, 3), (96, .iload_n 3, 1), (97, .aload_n 0, 1), (98, .getfield 26, 3), (101, .getfield 288, 3), (104, .iload_n 2, 1), (105, .iaload, 1), (106, .aload_n 0, 1), (107, .getfield 54, 3), (110, .iconst 0, 1), (111, .invokevirtual 173, 3), (114, .pop, 1), (115, .aload_n 0, 1), (116, .iload_n 1, 1), (117, .putfield 269, 3), (120, .aload_n 0, 1), (121, .iload_n 3, 1), (122, .aload_n 0, 1), (123, .getfield 54, 3), (126, .getfield 125, 3), (129, .iadd, 1), (130, .invokevirtual 192, 3), (133, .ireturn, 1)]
def qE_undo : mm_M := (⟨"EditorCore", "undo", "()I"⟩, prog_1_method_36_code, mm_cd qE_undo_t, 5, some .int, { frames := 3, cells := 0, slots := 0, locals := 114 }, mm_fl fl_E)
theorem qE_undo_ok : mm_ok qE_undo := ⟨mm_cd_ok qE_undo_t (by decide +kernel), mm_fl_ok fl_E fl_E_ok⟩
theorem qE_undo_k : mm_LkV qE_undo 0 0 := ⟨⟨wd_397, ⟨by decide +kernel, by decide +kernel, by decide +kernel⟩, wd_1⟩, wd_396, ws_19, ⟨_, _, rfl⟩⟩
def qE_search_t : List (Nat × Instr × Nat) := [(0, .aload_n 0, 1), (1, .getfield 19, 3), (4, .getfield 129, 3), (7, .ifCond .ne 6, 3), (10, .bipush (-2), 2), (12, .ireturn, 1), (13, .aload_n 0, 1), (14, .getfield 19, 3), (17, .getfield 132, 3), (20, .iconst 0, 1), (21, .aaload, 1), (22, .astore_n 1, 1), (23, .aload_n 0, 1), (24, .getfield 10, 3), (27, .getfield 112, 3), (30, .istore_n 2, 1), (31, .iload_n 2, 1), (32, .aload_n 1, 1), (33, .getfield 125, 3), (36, .iadd, 1), (37, .aload_n 0, 1), (38, .getfield 10, 3), (41, .getfield 122, 3), (44, .getfield 125, 3), (47, .if_icmp .gt 35, 3), (50, .aload_n 0, 1), (51, .getfield 10, 3), (54, .getfield 122, 3), (57, .aload_n 1, 1), (58, .iload_n 2, 1), (59, .invokevirtual 291, 3), (62, .ifCond .eq 14, 3), (65, .aload_n 0, 1), (66, .iload_n 2, 1), (67, .aload_n 1, 1), (68, .getfield 125, 3), (71, .iadd, 1), (72, .invokevirtual 192, 3), (75, .ireturn, 1), (76, .iinc 2 1, 3), (79, .goto (-48), 3), (82, .bipush (-2), 2), (84, .ireturn, 1)]
def qE_search : mm_M := (⟨"EditorCore", "search", "()I"⟩, prog_1_method_37_code, mm_cd qE_search_t, 3, some .int, { frames := 1, cells := 0, slots := 0, locals := 38 }, mm_fl fl_E)
theorem qE_search_ok : mm_ok qE_search := ⟨mm_cd_ok qE_search_t (by decide +kernel), mm_fl_ok fl_E fl_E_ok⟩
theorem qE_search_k : mm_LkV qE_search 0 0 := ⟨⟨wd_407, ⟨by decide +kernel, by decide +kernel, by decide +kernel⟩, wd_1⟩, wd_406, ws_20, ⟨_, _, rfl⟩⟩
def qE_argument_t : List (Nat × Instr × Nat) := [(0, .iload_n 1, 1), (1, .iconst 1, 1), (2, .if_icmp .lt 9, 3), (5, .iload_n 1, 1), (6, .bipush 9, 2), (8, .if_icmp .le 5, 3), (11, .iconst (-1), 1), (12, .ireturn, 1), (13, .aload_n 0, 1), (14, .iload_n 1, 1), (15, .putfield 58, 3), (18, .iconst 0, 1), (19, .ireturn, 1)]
def qE_argument : mm_M := (⟨"EditorCore", "argument", "(I)I"⟩, prog_1_method_4_code, mm_cd qE_argument_t, 2, some .int, { frames := 0, cells := 0, slots := 0, locals := 0 }, mm_fl fl_E)
theorem qE_argument_ok : mm_ok qE_argument := ⟨mm_cd_ok qE_argument_t (by decide +kernel), mm_fl_ok fl_E fl_E_ok⟩
theorem qE_argument_k : mm_LkV qE_argument 1 0 := ⟨⟨wd_415, ⟨by decide +kernel, by decide +kernel, by decide +kernel⟩, wd_1⟩, wd_413, wd_414, ⟨_, _, rfl⟩⟩
def qE_bind_t : List (Nat × Instr × Nat) := [(0, .iload_n 1, 1), (1, .invokestatic 84, 3), (4, .ifCond .eq 31, 3), (7, .iload_n 2, 1), (8, .invokestatic 87, 3), (11, .ifCond .eq 24, 3), (14, .iload_n 3, 1), (15, .invokestatic 87, 3), (18, .ifCond .eq 17, 3), (21, .iload_n 2, 1), (22, .iconst (-1), 1), (23, .if_icmp .ne 8, 3), (26, .iload_n 3, 1), (27, .iconst (-1), 1), (28, .if_icmp .ne 7, 3), (31, .iconst 1, 1), (32, .goto 4, 3), (35, .iconst 0, 1), (36, .istore 5, 2), (38, .iload 5, 2), (40, .ifCond .eq 16, 3), (43, .iload 4, 2), (45, .iconst (-1), 1), (46, .if_icmp .lt 10, 3), (49, .iload 4, 2), (51, .bipush 21, 2), (53, .if_icmp .le 5, 3), (56, .iconst (-1), 1), (57, .ireturn, 1), (58, .aload_n 0, 1), (59, .getfield 33, 3), (62, .iload_n 1, 1), (63, .iload_n 2, 1), (64, .iload_n 3, 1), (65, .invokestatic 90, 3), (68, .iload 4, 2), (70, .invokevirtual 94, 3), (73, .ireturn, 1)]
def qE_bind : mm_M := (⟨"EditorCore", "bind", "(IIII)I"⟩, prog_1_method_5_code, mm_cd qE_bind_t, 6, some .int, { frames := 3, cells := 0, slots := 0, locals := 114 }, mm_fl fl_E)
theorem qE_bind_ok : mm_ok qE_bind := ⟨mm_cd_ok qE_bind_t (by decide +kernel), mm_fl_ok fl_E fl_E_ok⟩
theorem qE_bind_k : mm_LkV qE_bind 4 0 := ⟨⟨wd_419, ⟨by decide +kernel, by decide +kernel, by decide +kernel⟩, wd_1⟩, wd_417, wd_418, ⟨_, _, rfl⟩⟩
def qE_isKey_t : List (Nat × Instr × Nat) := [(0, .iload_n 0, 1), (1, .ifCond .lt 13, 3), (4, .iload_n 0, 1), (5, .bipush 15, 2), (7, .if_icmp .gt 7, 3), (10, .iconst 1, 1), (11, .goto 4, 3), (14, .iconst 0, 1), (15, .ireturn, 1)]
def qE_isKey : mm_M := (⟨"EditorCore", "isKey", "(I)Z"⟩, prog_1_method_16_code, mm_cd qE_isKey_t, 1, some .boolean, { frames := 0, cells := 0, slots := 0, locals := 0 }, mm_fl fl_E)
theorem qE_isKey_ok : mm_ok qE_isKey := ⟨mm_cd_ok qE_isKey_t (by decide +kernel), mm_fl_ok fl_E fl_E_ok⟩
theorem qE_isKey_k : mm_LkS qE_isKey 1 := ⟨⟨wd_422, ⟨by decide +kernel, by decide +kernel, by decide +kernel⟩, wd_1⟩, wd_421⟩
def qE_isKeyOrNone_t : List (Nat × Instr × Nat) := [(0, .iload_n 0, 1), (1, .iconst (-1), 1), (2, .if_icmp .eq 10, 3), (5, .iload_n 0, 1), (6, .invokestatic 84, 3), (9, .ifCond .eq 7, 3), (12, .iconst 1, 1), (13, .goto 4, 3), (16, .iconst 0, 1), (17, .ireturn, 1)]
def qE_isKeyOrNone : mm_M := (⟨"EditorCore", "isKeyOrNone", "(I)Z"⟩, prog_1_method_17_code, mm_cd qE_isKeyOrNone_t, 1, some .boolean, { frames := 1, cells := 0, slots := 0, locals := 38 }, mm_fl fl_E)
theorem qE_isKeyOrNone_ok : mm_ok qE_isKeyOrNone := ⟨mm_cd_ok qE_isKeyOrNone_t (by decide +kernel), mm_fl_ok fl_E fl_E_ok⟩
theorem qE_isKeyOrNone_k : mm_LkS qE_isKeyOrNone 1 := ⟨⟨wd_425, ⟨by decide +kernel, by decide +kernel, by decide +kernel⟩, wd_1⟩, wd_424⟩
def qE_press_t : List (Nat × Instr × Nat) := [(0, .iload_n 1, 1), (1, .invokestatic 84, 3), (4, .ifCond .ne 5, 3), (7, .iconst (-1), 1), (8, .ireturn, 1), (9, .aload_n 0, 1), (10, .getfield 33, 3), (13, .iload_n 1, 1), (14, .invokevirtual 98, 3), (17, .istore_n 2, 1), (18, .iload_n 2, 1), (19, .bipush 21, 2), (21, .if_icmp .ne 10, 3), (24, .aload_n 0, 1), (25, .invokevirtual 77, 3), (28, .goto 8, 3), (31, .aload_n 0, 1), (32, .iload_n 2, 1), (33, .invokevirtual 81, 3), (36, .istore_n 3, 1), (37, .iload_n 3, 1), (38, .ifCond .lt 12, 3), (41, .aload_n 0, 1), (42, .getfield 40, 3), (45, .iload_n 1, 1), (46, .iconst 0, 1), (47, .invokevirtual 73, 3), (50, .iload_n 3, 1), (51, .ireturn, 1)]
def qE_press : mm_M := (⟨"EditorCore", "press", "(I)I"⟩, prog_1_method_6_code, mm_cd qE_press_t, 4, some .int, { frames := 8, cells := 0, slots := 0, locals := 304 }, mm_fl fl_E)
theorem qE_press_ok : mm_ok qE_press := ⟨mm_cd_ok qE_press_t (by decide +kernel), mm_fl_ok fl_E fl_E_ok⟩
theorem qE_press_k : mm_LkV qE_press 1 0 := ⟨⟨wd_440, ⟨by decide +kernel, by decide +kernel, by decide +kernel⟩, wd_1⟩, wd_438, wd_439, ⟨_, _, rfl⟩⟩
def qE_macro_t : List (Nat × Instr × Nat) := [(0, .iload_n 1, 1), (1, .aload_n 0, 1), (2, .getfield 40, 3), (5, .getfield 101, 3), (8, .if_icmp .ne 5, 3), (11, .iconst (-1), 1), (12, .ireturn, 1), (13, .aload_n 0, 1), (14, .getfield 40, 3), (17, .iload_n 1, 1), (18, .putfield 101, 3), (21, .iload_n 1, 1), (22, .ifCond .eq 13, 3), (25, .aload_n 0, 1), (26, .getfield 40, 3), (29, .iconst 0, 1), (30, .putfield 105, 3), (33, .iconst 0, 1), (34, .ireturn, 1), (35, .aload_n 0, 1), (36, .getfield 40, 3), (39, .getfield 105, 3), (42, .ireturn, 1)]
def qE_macro : mm_M := (⟨"EditorCore", "macro", "(Z)I"⟩, prog_1_method_7_code, mm_cd qE_macro_t, 2, some .int, { frames := 0, cells := 0, slots := 0, locals := 0 }, mm_fl fl_E)
theorem qE_macro_ok : mm_ok qE_macro := ⟨mm_cd_ok qE_macro_t (by decide +kernel), mm_fl_ok fl_E fl_E_ok⟩
theorem qE_macro_k : mm_LkV qE_macro 1 0 := ⟨⟨wd_444, ⟨by decide +kernel, by decide +kernel, by decide +kernel⟩, wd_1⟩, wd_442, wd_443, ⟨_, _, rfl⟩⟩
def qE_marker_t : List (Nat × Instr × Nat) := [(0, .iload_n 1, 1), (1, .ifCond .lt 8, 3), (4, .iload_n 1, 1), (5, .iconst 4, 1), (6, .if_icmp .lt 5, 3), (9, .iconst (-1), 1), (10, .ireturn, 1), (11, .aload_n 0, 1), (12, .getfield 10, 3), (15, .getfield 108, 3), (18, .iload_n 1, 1), (19, .aload_n 0, 1), (20, .getfield 10, 3), (23, .getfield 112, 3), (26, .iastore, 1), (27, .aload_n 0, 1), (28, .getfield 10, 3), (31, .getfield 115, 3), (34, .iload_n 1, 1), (35, .iload_n 2, 1), (36, .bastore, 1), (37, .iconst 0, 1), (38, .ireturn, 1)]
def qE_marker : mm_M := (⟨"EditorCore", "marker", "(IZ)I"⟩, prog_1_method_8_code, mm_cd qE_marker_t, 3, some .int, { frames := 0, cells := 0, slots := 0, locals := 0 }, mm_fl fl_E)
theorem qE_marker_ok : mm_ok qE_marker := ⟨mm_cd_ok qE_marker_t (by decide +kernel), mm_fl_ok fl_E fl_E_ok⟩
theorem qE_marker_k : mm_LkV qE_marker 2 0 := ⟨⟨wd_448, ⟨by decide +kernel, by decide +kernel, by decide +kernel⟩, wd_1⟩, wd_446, wd_447, ⟨_, _, rfl⟩⟩
def qE_frame_t : List (Nat × Instr × Nat) := [(0, .aload_n 0, 1), (1, .getfield 47, 3), (4, .iload_n 1, 1), (5, .iload_n 2, 1), (6, .invokevirtual 119, 3), (9, .ireturn, 1)]
def qE_frame : mm_M := (⟨"EditorCore", "frame", "(II)I"⟩, prog_1_method_9_code, mm_cd qE_frame_t, 3, some .int, { frames := 1, cells := 0, slots := 0, locals := 38 }, mm_fl fl_E)
theorem qE_frame_ok : mm_ok qE_frame := ⟨mm_cd_ok qE_frame_t (by decide +kernel), mm_fl_ok fl_E fl_E_ok⟩
theorem qE_frame_k : mm_LkV qE_frame 2 0 := ⟨⟨wd_452, ⟨by decide +kernel, by decide +kernel, by decide +kernel⟩, wd_1⟩, wd_450, wd_451, ⟨_, _, rfl⟩⟩
def qE_character_t : List (Nat × Instr × Nat) := [(0, .iload_n 1, 1), (1, .ifCond .lt 17, 3), (4, .iload_n 1, 1), (5, .aload_n 0, 1), (6, .getfield 10, 3), (9, .getfield 122, 3), (12, .getfield 125, 3), (15, .if_icmp .lt 5, 3), (18, .iconst (-1), 1), (19, .ireturn, 1), (20, .aload_n 0, 1), (21, .getfield 10, 3), (24, .getfield 122, 3), (27, .getfield 126, 3), (30, .iload_n 1, 1), (31, .iaload, 1), (32, .ireturn, 1)]
def qE_character : mm_M := (⟨"EditorCore", "character", "(I)I"⟩, prog_1_method_10_code, mm_cd qE_character_t, 2, some .int, { frames := 0, cells := 0, slots := 0, locals := 0 }, mm_fl fl_E)
theorem qE_character_ok : mm_ok qE_character := ⟨mm_cd_ok qE_character_t (by decide +kernel), mm_fl_ok fl_E fl_E_ok⟩
theorem qE_character_k : mm_LkV qE_character 1 0 := ⟨⟨wd_460, ⟨by decide +kernel, by decide +kernel, by decide +kernel⟩, wd_1⟩, wd_458, wd_459, ⟨_, _, rfl⟩⟩
def qE_markerAt_t : List (Nat × Instr × Nat) := [(0, .iload_n 1, 1), (1, .ifCond .lt 8, 3), (4, .iload_n 1, 1), (5, .iconst 4, 1), (6, .if_icmp .lt 5, 3), (9, .iconst (-1), 1), (10, .ireturn, 1), (11, .aload_n 0, 1), (12, .getfield 10, 3), (15, .getfield 108, 3), (18, .iload_n 1, 1), (19, .iaload, 1), (20, .ireturn, 1)]
def qE_markerAt : mm_M := (⟨"EditorCore", "markerAt", "(I)I"⟩, prog_1_method_11_code, mm_cd qE_markerAt_t, 2, some .int, { frames := 0, cells := 0, slots := 0, locals := 0 }, mm_fl fl_E)
theorem qE_markerAt_ok : mm_ok qE_markerAt := ⟨mm_cd_ok qE_markerAt_t (by decide +kernel), mm_fl_ok fl_E fl_E_ok⟩
theorem qE_markerAt_k : mm_LkV qE_markerAt 1 0 := ⟨⟨wd_464, ⟨by decide +kernel, by decide +kernel, by decide +kernel⟩, wd_1⟩, wd_462, wd_463, ⟨_, _, rfl⟩⟩
def qE_killed_t : List (Nat × Instr × Nat) := [(0, .iload_n 1, 1), (1, .ifCond .lt 18, 3), (4, .iload_n 1, 1), (5, .aload_n 0, 1), (6, .getfield 19, 3), (9, .getfield 129, 3), (12, .if_icmp .ge 7, 3), (15, .iload_n 2, 1), (16, .ifCond .ge 5, 3), (19, .iconst (-1), 1), (20, .ireturn, 1), (21, .aload_n 0, 1), (22, .getfield 19, 3), (25, .getfield 132, 3), (28, .iload_n 1, 1), (29, .aaload, 1), (30, .astore_n 3, 1), (31, .iload_n 2, 1), (32, .aload_n 3, 1), (33, .getfield 125, 3), (36, .if_icmp .ge 12, 3), (39, .aload_n 3, 1), (40, .getfield 126, 3), (43, .iload_n 2, 1), (44, .iaload, 1), (45, .goto 4, 3), (48, .iconst 0, 1), (49, .ireturn, 1)]
def qE_killed : mm_M := (⟨"EditorCore", "killed", "(II)I"⟩, prog_1_method_12_code, mm_cd qE_killed_t, 4, some .int, { frames := 0, cells := 0, slots := 0, locals := 0 }, mm_fl fl_E)
theorem qE_killed_ok : mm_ok qE_killed := ⟨mm_cd_ok qE_killed_t (by decide +kernel), mm_fl_ok fl_E fl_E_ok⟩
theorem qE_killed_k : mm_LkV qE_killed 2 0 := ⟨⟨wd_468, ⟨by decide +kernel, by decide +kernel, by decide +kernel⟩, wd_1⟩, wd_466, wd_467, ⟨_, _, rfl⟩⟩
def qE_cell_t : List (Nat × Instr × Nat) := [(0, .iload_n 1, 1), (1, .ifCond .lt 29, 3), (4, .iload_n 1, 1), (5, .aload_n 0, 1), (6, .getfield 47, 3), (9, .getfield 136, 3), (12, .if_icmp .ge 18, 3), (15, .iload_n 2, 1), (16, .ifCond .lt 14, 3), (19, .iload_n 2, 1), (20, .aload_n 0, 1), (21, .getfield 47, 3), (24, .getfield 138, 3), (27, .if_icmp .lt 5, 3), (30, .iconst (-1), 1), (31, .ireturn, 1), (32, .aload_n 0, 1), (33, .getfield 47, 3), (36, .aload_n 0, 1), (37, .getfield 10, 3), (40, .invokevirtual 141, 3), (43, .aload_n 0, 1), (44, .getfield 47, 3), (47, .aload_n 0, 1), (48, .getfield 10, 3), (51, .getfield 122, 3), (54, .aload_n 0, 1), (55, .getfield 47, 3), (58, .getfield 145, 3), (61, .iload_n 1, 1), (62, .iadd, 1), (63, .iload_n 2, 1), (64, .invokevirtual 148, 3), (67, .ireturn, 1)]
def qE_cell : mm_M := (⟨"EditorCore", "cell", "(II)I"⟩, prog_1_method_13_code, mm_cd qE_cell_t, 3, some .int, { frames := 2, cells := 0, slots := 0, locals := 76 }, mm_fl fl_E)
theorem qE_cell_ok : mm_ok qE_cell := ⟨mm_cd_ok qE_cell_t (by decide +kernel), mm_fl_ok fl_E fl_E_ok⟩
theorem qE_cell_k : mm_LkV qE_cell 2 0 := ⟨⟨wd_472, ⟨by decide +kernel, by decide +kernel, by decide +kernel⟩, wd_1⟩, wd_470, wd_471, ⟨_, _, rfl⟩⟩
def qE_info_t : List (Nat × Instr × Nat) := [(0, .iload_n 1, 1), (1, .tableswitch 234 0 13 #[71, 82, 90, 100, 108, 116, 124, 132, 148, 156, 183, 202, 224, 229], 71), (72, .aload_n 0, 1), (73, .getfield 10, 3), (76, .getfield 122, 3), (79, .getfield 125, 3), (82, .ireturn, 1), (83, .aload_n 0, 1), (84, .getfield 10, 3), (87, .getfield 112, 3), (90, .ireturn, 1), (91, .aload_n 0, 1), (92, .getfield 10, 3), (95, .getfield 108, 3), (98, .iconst 4, 1), (99, .iaload, 1), (100, .ireturn, 1), (101, .aload_n 0, 1), (102, .getfield 19, 3), (105, .getfield 129, 3), (108, .ireturn, 1), (109, .aload_n 0, 1), (110, .getfield 26, 3), (113, .getfield 152, 3), (116, .ireturn, 1), (117, .aload_n 0, 1), (118, .getfield 33, 3), (121, .invokevirtual 155, 3), (124, .ireturn, 1), (125, .aload_n 0, 1), (126, .getfield 40, 3), (129, .getfield 105, 3), (132, .ireturn, 1), (133, .aload_n 0, 1), (134, .getfield 40, 3), (137, .getfield 101, 3), (140, .ifCond .eq 7, 3), (143, .iconst 1, 1), (144, .goto 4, 3), (147, .iconst 0, 1), (148, .ireturn, 1), (149, .aload_n 0, 1), (150, .getfield 33, 3), (153, .getfield 158, 3), (156, .ireturn, 1), (157, .aload_n 0, 1), (158, .getfield 47, 3), (161, .aload_n 0, 1), (162, .getfield 10, 3), (165, .getfield 122, 3), (168, .aload_n 0, 1), (169, .getfield 10, 3), (172, .getfield 122, 3), (175, .getfield 125, 3), (178, .invokevirtual 159, 3), (181, .iconst 1, 1), (182, .iadd, 1), (183, .ireturn, 1), (184, .aload_n 0, 1), (185, .getfield 47, 3), (188, .aload_n 0, 1), (189, .getfield 10, 3), (192, .invokevirtual 141, 3), (195, .aload_n 0, 1), (196, .getfield 47, 3), (199, .getfield 145, 3), (202, .ireturn, 1), (203, .aload_n 0, 1), (204, .getfield 47, 3), (207, .aload_n 0, 1), (208, .getfield 10, 3), (211, .getfield 122, 3), (214, .aload_n 0, 1), (215, .getfield 10, 3), (218, .getfield 112, 3), (221, .invokevirtual 159, 3), (224, .ireturn, 1), (225, .aload_n 0, 1), (226, .getfield 58, 3), (229, .ireturn, 1), (230, .aload_n 0, 1), (231, .getfield 62, 3), (234, .ireturn, 1), (235, .iconst (-1), 1), (236, .ireturn, 1)]
def qE_info : mm_M := (⟨"EditorCore", "info", "(I)I"⟩, prog_1_method_14_code, mm_cd qE_info_t, 2, some .int, { frames := 2, cells := 0, slots := 0, locals := 76 }, mm_fl fl_E)
theorem qE_info_ok : mm_ok qE_info := ⟨mm_cd_ok qE_info_t (by decide +kernel), mm_fl_ok fl_E fl_E_ok⟩
theorem qE_info_k : mm_LkV qE_info 1 0 := ⟨⟨wd_490, ⟨by decide +kernel, by decide +kernel, by decide +kernel⟩, wd_1⟩, wd_488, wd_489, ⟨_, _, rfl⟩⟩
end
section
def qR_init_t : List (Nat × Instr × Nat) := [(0, .aload_n 0, 1), (1, .invokespecial 1, 3), (4, .aload_n 0, 1), (5, .bipush 100, 2), (7, .newarray .int, 2), (9, .putfield 7, 3), (12, .aload_n 0, 1), (13, .bipush 100, 2), (15, .newarray .int, 2), (17, .putfield 13, 3), (20, .aload_n 0, 1), (21, .bipush 100, 2), (23, .newarray .int, 2), (25, .putfield 16, 3), (28, .aload_n 0, 1), (29, .bipush (-2), 2), (31, .putfield 19, 3), (34, .aload_n 0, 1), (35, .iconst 1, 1), (36, .putfield 23, 3), (39, .aload_n 0, 1), (40, .bipush (-2), 2), (42, .putfield 26, 3), (45, .aload_n 0, 1), (46, .iconst 4, 1), (47, .newarray .int, 2), (49, .putfield 29, 3), (52, .aload_n 0, 1), (53, .iconst 4, 1), (54, .newarray .boolean, 2), (56, .putfield 32, 3), (59, .aload_n 0, 1), (60, .sipush 400, 3), (63, .newarray .int, 2), (65, .putfield 36, 3), (68, .aload_n 0, 1), (69, .iconst 4, 1), (70, .newarray .int, 2), (72, .putfield 39, 3), (75, .aload_n 0, 1), (76, .sipush 2000, 3), (79, .newarray .int, 2), (81, .putfield 42, 3), (84, .aload_n 0, 1), (85, .bipush 20, 2), (87, .newarray .int, 2), (89, .putfield 45, 3), (92, .aload_n 0, 1), (93, .bipush 20, 2), (95, .newarray .int, 2), (97, .putfield 48, 3), (100, .aload_n 0, 1), (101, .bipush 20, 2), (103, .newarray .int, 2), (105, .putfield 51, 3), (108, .aload_n 0, 1), (109, .bipush 20, 2), (111, .newarray .int, 2), (113, .putfield 54, 3), (116, .aload_n 0, 1), (117, .bipush 72, 2), (119, .newarray .int, 2), (121, .putfield 57, 3), (124, .aload_n 0, 1), (125, .bipush 24, 2), (127, .newarray .int, 2), (129, .putfield 60, 3), (132, .aload_n 0, 1), (133, .iconst 3, 1), (134, .newarray .int, 2), (136, .putfield 63, 3), (139, .aload_n 0, 1), (140, .bipush 12, 2), (142, .newarray .int, 2), (144, .putfield 66, 3), (147, .aload_n 0, 1), (148, .bipush 10, 2), (150, .putfield 69, 3), (153, .aload_n 0, 1), (154, .iconst 4, 1), (155, .putfield 72, 3), (158, .iconst 0, 1), (159, .istore_n 1, 1), (160, .iload_n 1, 1), (161, .iconst 4, 1), (162, .if_icmp .ge 17, 3), (165, .aload_n 0, 1), (166, .getfield 29, 3), (169, .iload_n 1, 1), (170, .bipush (-2), 2), (172, .iastore, 1), (173, .iinc 1 1, 3), (176, .goto (-16), 3), (179, .return_, 1)]
def qR_init : mm_M := (⟨"EditorCoreModel", "<init>", "()V"⟩, prog_10_method_1_code, mm_cd qR_init_t, 2, none, { frames := 1, cells := 16, slots := 2903, locals := 38 }, mm_fl fl_R)
theorem qR_init_ok : mm_ok qR_init := ⟨mm_cd_ok qR_init_t (by decide +kernel), mm_fl_ok fl_R fl_R_ok⟩
theorem qR_init_k : mm_LkI qR_init 0 := ⟨⟨wd_500, ⟨by decide +kernel, by decide +kernel, by decide +kernel⟩, wd_9⟩, wd_499, rfl, rfl⟩
def qR_bind_t : List (Nat × Instr × Nat) := [(0, .iload_n 1, 1), (1, .ifCond .lt 31, 3), (4, .iload_n 1, 1), (5, .bipush 15, 2), (7, .if_icmp .gt 25, 3), (10, .iload_n 2, 1), (11, .iconst (-1), 1), (12, .if_icmp .lt 20, 3), (15, .iload_n 2, 1), (16, .bipush 15, 2), (18, .if_icmp .gt 14, 3), (21, .iload_n 3, 1), (22, .iconst (-1), 1), (23, .if_icmp .lt 9, 3), (26, .iload_n 3, 1), (27, .bipush 15, 2), (29, .if_icmp .le 5, 3), (32, .iconst (-1), 1), (33, .ireturn, 1), (34, .iload_n 3, 1), (35, .ifCond .lt 7, 3), (38, .iload_n 2, 1), (39, .ifCond .lt 16, 3), (42, .iload 4, 2), (44, .iconst (-1), 1), (45, .if_icmp .lt 10, 3), (48, .iload 4, 2), (50, .bipush 21, 2), (52, .if_icmp .le 5, 3), (55, .iconst (-1), 1), (56, .ireturn, 1), (57, .iload_n 2, 1), (58, .ifCond .ge 7, 3), (61, .iconst 1, 1), (62, .goto 12, 3), (65, .iload_n 3, 1), (66, .ifCond .ge 7, 3), (69, .iconst 2, 1), (70, .goto 4, 3), (73, .iconst 3, 1), (74, .istore 5, 2), (76, .iconst 0, 1), (77, .istore 6, 2), (79, .iconst 0, 1), (80, .istore 7, 2), (82, .iload 7, 2), (84, .aload_n 0, 1), (85, .getfield 176, 3), (88, .if_icmp .ge 65, 3), (91, .aload_n 0, 1), (92, .iload 7, 2), (94, .invokevirtual 179, 3), (97, .istore 8, 2), (99, .iload 8, 2), (101, .iload 5, 2), (103, .if_icmp .ge 20, 3), (106, .aload_n 0, 1), (107, .iload 7, 2), (109, .iload 8, 2), (111, .iload_n 1, 1), (112, .iload_n 2, 1), (113, .iload_n 3, 1), (114, .invokevirtual 182, 3), (117, .ifCond .eq 6, 3), (120, .bipush (-3), 2), (122, .ireturn, 1), (123, .iload 8, 2), (125, .iload 5, 2), (127, .if_icmp .lt 17, 3), (130, .aload_n 0, 1), (131, .iload 7, 2), (133, .iload 5, 2), (135, .iload_n 1, 1), (136, .iload_n 2, 1), (137, .iload_n 3, 1), (138, .invokevirtual 182, 3), (141, .ifCond .ne 6, 3), (144, .iinc 6 1, 3), (147, .iinc 7 1, 3), (150, .goto (-68), 3), (153, .iload 4, 2), (155, .ifCond .lt 13, 3), (158, .iload 6, 2), (160, .bipush 24, 2), (162, .if_icmp .ne 6, 3), (165, .bipush (-3), 2), (167, .ireturn, 1), (168, .aload_n 0, 1), (169, .getfield 176, 3), (172, .iconst 1, 1), (173, .isub, 1), (174, .istore 7, 2), (176, .iload 7, 2), (178, .ifCond .lt 59, 3), (181, .aload_n 0, 1), (182, .iload 7, 2), (184, .invokevirtual 179, 3), (187, .istore 8, 2), (189, .iload 8, 2), (191, .iload 5, 2), (193, .if_icmp .lt 38, 3), (196, .iload 4, 2), (198, .ifCond .ge 10, 3), (201, .iload 8, 2), (203, .iload 5, 2), (205, .if_icmp .gt 26, 3), (208, .aload_n 0, 1), (209, .iload 7, 2), (211, .iload 5, 2), (213, .iload_n 1, 1), (214, .iload_n 2, 1), (215, .iload_n 3, 1), (216, .invokevirtual 182, 3), (219, .ifCond .ne 6, 3), (222, .goto 9, 3), (225, .aload_n 0, 1), (226, .iload 7, 2), (228, .invokevirtual 186, 3), (231, .iinc 7 (-1), 3), (234, .goto (-58), 3), (237, .iload 4, 2), (239, .ifCond .ge 5, 3), (242, .iconst 0, 1), (243, .ireturn, 1), (244, .aload_n 0, 1), (245, .getfield 57, 3), (248, .aload_n 0, 1), (249, .getfield 176, 3), (252, .iconst 3, 1), (253, .imul, 1), (254, .iload_n 1, 1), (255, .iastore, 1), (256, .aload_n 0, 1), (257, .getfield 57, 3), (260, .aload_n 0, 1), (261, .getfield 176, 3), (264, .iconst 3, 1), (265, .imul, 1), (266, .iconst 1, 1), (267, .iadd, 1), (268, .iload_n 2, 1), (269, .iastore, 1), (270, .aload_n 0, 1), (271, .getfield 57, 3), (274, .aload_n 0, 1), (275, .getfield 176, 3), (278, .iconst 3, 1), (279, .imul, 1), (280, .iconst 2, 1), (281, .iadd, 1), (282, .iload_n 3, 1), (283, .iastore, 1), (284, .aload_n 0, 1), (285, .getfield 60, 3), (288, .aload_n 0, 1), (289, .getfield 176, 3), (292, .iload 4, 2), (294, .iastore, 1), (295, .aload_n 0, 1), (296, .dup, 1), (297, .getfield 176, 3), (300, .iconst 1, 1), (301, .iadd, 1), (302, .putfield 176, 3), (305, .iconst 0, 1), (306, .ireturn, 1)]
def qR_bind : mm_M := (⟨"EditorCoreModel", "bind", "(IIII)I"⟩, prog_10_method_27_code, mm_cd qR_bind_t, 9, some .int, { frames := 1, cells := 0, slots := 0, locals := 38 }, mm_fl fl_R)
theorem qR_bind_ok : mm_ok qR_bind := ⟨mm_cd_ok qR_bind_t (by decide +kernel), mm_fl_ok fl_R fl_R_ok⟩
theorem qR_bind_k : mm_LkV qR_bind 4 8 := ⟨⟨wd_614, ⟨by decide +kernel, by decide +kernel, by decide +kernel⟩, wd_9⟩, wd_612, wd_613, ⟨_, _, rfl⟩⟩
def qR_size_t : List (Nat × Instr × Nat) := [(0, .aload_n 0, 1), (1, .getfield 57, 3), (4, .iload_n 1, 1), (5, .iconst 3, 1), (6, .imul, 1), (7, .iconst 1, 1), (8, .iadd, 1), (9, .iaload, 1), (10, .ifCond .ge 7, 3), (13, .iconst 1, 1), (14, .goto 21, 3), (17, .aload_n 0, 1), (18, .getfield 57, 3), (21, .iload_n 1, 1), (22, .iconst 3, 1), (23, .imul, 1), (24, .iconst 2, 1), (25, .iadd, 1), (26, .iaload, 1), (27, .ifCond .ge 7, 3), (30, .iconst 2, 1), (31, .goto 4, 3), (34, .iconst 3, 1), (35, .ireturn, 1)]
def qR_size : mm_M := (⟨"EditorCoreModel", "size", "(I)I"⟩, prog_10_method_24_code, mm_cd qR_size_t, 2, some .int, { frames := 0, cells := 0, slots := 0, locals := 0 }, mm_fl fl_R)
theorem qR_size_ok : mm_ok qR_size := ⟨mm_cd_ok qR_size_t (by decide +kernel), mm_fl_ok fl_R fl_R_ok⟩
theorem qR_size_k : mm_LkV qR_size 1 8 := ⟨⟨wd_618, ⟨by decide +kernel, by decide +kernel, by decide +kernel⟩, wd_9⟩, wd_617, ws_22, ⟨_, _, rfl⟩⟩
def qR_begins_t : List (Nat × Instr × Nat) := [(0, .aload_n 0, 1), (1, .getfield 57, 3), (4, .iload_n 1, 1), (5, .iconst 3, 1), (6, .imul, 1), (7, .iaload, 1), (8, .iload_n 3, 1), (9, .if_icmp .ne 23, 3), (12, .iload_n 2, 1), (13, .iconst 1, 1), (14, .if_icmp .le 20, 3), (17, .aload_n 0, 1), (18, .getfield 57, 3), (21, .iload_n 1, 1), (22, .iconst 3, 1), (23, .imul, 1), (24, .iconst 1, 1), (25, .iadd, 1), (26, .iaload, 1), (27, .iload 4, 2), (29, .if_icmp .eq 5, 3), (32, .iconst 0, 1), (33, .ireturn, 1), (34, .iload_n 2, 1), (35, .iconst 3, 1), (36, .if_icmp .lt 18, 3), (39, .aload_n 0, 1), (40, .getfield 57, 3), (43, .iload_n 1, 1), (44, .iconst 3, 1), (45, .imul, 1), (46, .iconst 2, 1), (47, .iadd, 1), (48, .iaload, 1), (49, .iload 5, 2), (51, .if_icmp .ne 7, 3), (54, .iconst 1, 1), (55, .goto 4, 3), (58, .iconst 0, 1), (59, .ireturn, 1)]
def qR_begins : mm_M := (⟨"EditorCoreModel", "begins", "(IIIII)Z"⟩, prog_10_method_26_code, mm_cd qR_begins_t, 6, some .boolean, { frames := 0, cells := 0, slots := 0, locals := 0 }, mm_fl fl_R)
theorem qR_begins_ok : mm_ok qR_begins := ⟨mm_cd_ok qR_begins_t (by decide +kernel), mm_fl_ok fl_R fl_R_ok⟩
theorem qR_begins_k : mm_LkV qR_begins 5 8 := ⟨⟨wd_622, ⟨by decide +kernel, by decide +kernel, by decide +kernel⟩, wd_9⟩, wd_621, ws_23, ⟨_, _, rfl⟩⟩
def qR_dropBinding_t : List (Nat × Instr × Nat) := [(0, .aload_n 0, 1), (1, .dup, 1), (2, .getfield 176, 3), (5, .iconst 1, 1), (6, .isub, 1), (7, .putfield 176, 3), (10, .iconst 0, 1), (11, .istore_n 2, 1), (12, .iload_n 2, 1), (13, .iconst 3, 1), (14, .if_icmp .ge 32, 3), (17, .aload_n 0, 1), (18, .getfield 57, 3), (21, .iload_n 1, 1), (22, .iconst 3, 1), (23, .imul, 1), (24, .iload_n 2, 1), (25, .iadd, 1), (26, .aload_n 0, 1), (27, .getfield 57, 3), (30, .aload_n 0, 1), (31, .getfield 176, 3), (34, .iconst 3, 1), (35, .imul, 1), (36, .iload_n 2, 1), (37, .iadd, 1), (38, .iaload, 1), (39, .iastore, 1), (40, .iinc 2 1, 3), (43, .goto (-31), 3), (46, .aload_n 0, 1), (47, .getfield 60, 3), (50, .iload_n 1, 1), (51, .aload_n 0, 1), (52, .getfield 60, 3), (55, .aload_n 0, 1), (56, .getfield 176, 3), (59, .iaload, 1), (60, .iastore, 1), (61, .return_, 1)]
def qR_dropBinding : mm_M := (⟨"EditorCoreModel", "dropBinding", "(I)V"⟩, prog_10_method_25_code, mm_cd qR_dropBinding_t, 3, none, { frames := 0, cells := 0, slots := 0, locals := 0 }, mm_fl fl_R)
theorem qR_dropBinding_ok : mm_ok qR_dropBinding := ⟨mm_cd_ok qR_dropBinding_t (by decide +kernel), mm_fl_ok fl_R fl_R_ok⟩
theorem qR_dropBinding_k : mm_LkV qR_dropBinding 1 8 := ⟨⟨wd_626, ⟨by decide +kernel, by decide +kernel, by decide +kernel⟩, wd_9⟩, wd_625, ws_24, ⟨_, _, rfl⟩⟩
def qR_type_t : List (Nat × Instr × Nat) := [(0, .aload_n 0, 1), (1, .iload_n 1, 1), (2, .invokevirtual 199, 3), (5, .istore_n 2, 1), (6, .iload_n 2, 1), (7, .ifCond .lt 12, 3), (10, .aload_n 0, 1), (11, .sipush 1000, 3), (14, .iload_n 1, 1), (15, .iadd, 1), (16, .invokevirtual 208, 3), (19, .iload_n 2, 1), (20, .ireturn, 1)]
def qR_type : mm_M := (⟨"EditorCoreModel", "type", "(I)I"⟩, prog_10_method_31_code, mm_cd qR_type_t, 3, some .int, { frames := 4, cells := 0, slots := 0, locals := 152 }, mm_fl fl_R)
theorem qR_type_ok : mm_ok qR_type := ⟨mm_cd_ok qR_type_t (by decide +kernel), mm_fl_ok fl_R fl_R_ok⟩
theorem qR_type_k : mm_LkV qR_type 1 8 := ⟨⟨wd_630, ⟨by decide +kernel, by decide +kernel, by decide +kernel⟩, wd_9⟩, wd_628, wd_629, ⟨_, _, rfl⟩⟩
def qR_insert_t : List (Nat × Instr × Nat) := [(0, .iload_n 1, 1), (1, .invokestatic 92, 3), (4, .ifCond .ne 17, 3), (7, .iload_n 1, 1), (8, .bipush 32, 2), (10, .if_icmp .eq 11, 3), (13, .iload_n 1, 1), (14, .bipush 10, 2), (16, .if_icmp .eq 5, 3), (19, .iconst (-1), 1), (20, .ireturn, 1), (21, .aload_n 0, 1), (22, .getfield 75, 3), (25, .aload_n 0, 1), (26, .getfield 23, 3), (29, .iadd, 1), (30, .bipush 100, 2), (32, .if_icmp .le 6, 3), (35, .bipush (-3), 2), (37, .ireturn, 1), (38, .aload_n 0, 1), (39, .aload_n 0, 1), (40, .getfield 23, 3), (43, .putfield 78, 3), (46, .iconst 0, 1), (47, .istore_n 2, 1), (48, .iload_n 2, 1), (49, .aload_n 0, 1), (50, .getfield 23, 3), (53, .if_icmp .ge 16, 3), (56, .aload_n 0, 1), (57, .getfield 16, 3), (60, .iload_n 2, 1), (61, .iload_n 1, 1), (62, .iastore, 1), (63, .iinc 2 1, 3), (66, .goto (-18), 3), (69, .aload_n 0, 1), (70, .getfield 26, 3), (73, .bipush 100, 2), (75, .if_icmp .ne 51, 3), (78, .aload_n 0, 1), (79, .getfield 54, 3), (82, .aload_n 0, 1), (83, .getfield 85, 3), (86, .bipush 20, 2), (88, .irem, 1), (89, .iaload, 1), (90, .bipush 7, 2), (92, .if_icmp .gt 34, 3), (95, .aload_n 0, 1), (96, .getfield 54, 3), (99, .aload_n 0, 1), (100, .getfield 85, 3), (103, .bipush 20, 2), (105, .irem, 1), (106, .dup2, 1), (107, .iaload, 1), (108, .aload_n 0, 1), (109, .getfield 23, 3), (112, .iadd, 1), (113, .iastore, 1), (114, .aload_n 0, 1), (115, .aload_n 0, 1), (116, .getfield 96, 3), (119, .iconst 0, 1), (120, .invokevirtual 88, 3), (123, .goto 12, 3), (126, .aload_n 0, 1), (127, .aload_n 0, 1), (128, .getfield 96, 3), (131, .iconst 0, 1), (132, .invokevirtual 99, 3), (135, .aload_n 0, 1), (136, .dup, 1), (137, .getfield 96, 3), (140, .aload_n 0, 1), (141, .getfield 23, 3), (144, .iadd, 1), (145, .putfield 96, 3), (148, .aload_n 0, 1), (149, .bipush 100, 2), (151, .invokevirtual 102, 3), (154, .ireturn, 1)]
def qR_insert : mm_M := (⟨"EditorCoreModel", "insert", "(I)I"⟩, prog_10_method_7_code, mm_cd qR_insert_t, 3, some .int, { frames := 3, cells := 0, slots := 0, locals := 114 }, mm_fl fl_R)
theorem qR_insert_ok : mm_ok qR_insert := ⟨mm_cd_ok qR_insert_t (by decide +kernel), mm_fl_ok fl_R fl_R_ok⟩
theorem qR_insert_k : mm_LkV qR_insert 1 8 := ⟨⟨wd_634, ⟨by decide +kernel, by decide +kernel, by decide +kernel⟩, wd_9⟩, wd_633, ws_25, ⟨_, _, rfl⟩⟩
def qR_letter_t : List (Nat × Instr × Nat) := [(0, .iload_n 0, 1), (1, .bipush 97, 2), (3, .if_icmp .lt 13, 3), (6, .iload_n 0, 1), (7, .bipush 122, 2), (9, .if_icmp .gt 7, 3), (12, .iconst 1, 1), (13, .goto 4, 3), (16, .iconst 0, 1), (17, .ireturn, 1)]
def qR_letter : mm_M := (⟨"EditorCoreModel", "letter", "(I)Z"⟩, prog_10_method_2_code, mm_cd qR_letter_t, 1, some .boolean, { frames := 0, cells := 0, slots := 0, locals := 0 }, mm_fl fl_R)
theorem qR_letter_ok : mm_ok qR_letter := ⟨mm_cd_ok qR_letter_t (by decide +kernel), mm_fl_ok fl_R fl_R_ok⟩
theorem qR_letter_k : mm_LkS qR_letter 1 := ⟨⟨wd_637, ⟨by decide +kernel, by decide +kernel, by decide +kernel⟩, wd_9⟩, wd_636⟩
def qR_edit_t : List (Nat × Instr × Nat) := [(0, .aload_n 0, 1), (1, .getfield 75, 3), (4, .iload_n 2, 1), (5, .isub, 1), (6, .aload_n 0, 1), (7, .getfield 78, 3), (10, .iadd, 1), (11, .istore_n 3, 1), (12, .iconst 0, 1), (13, .istore 4, 2), (15, .iload 4, 2), (17, .aload_n 0, 1), (18, .getfield 75, 3), (21, .if_icmp .ge 23, 3), (24, .aload_n 0, 1), (25, .getfield 13, 3), (28, .iload 4, 2), (30, .aload_n 0, 1), (31, .getfield 7, 3), (34, .iload 4, 2), (36, .iaload, 1), (37, .iastore, 1), (38, .iinc 4 1, 3), (41, .goto (-26), 3), (44, .iload_n 1, 1), (45, .istore 4, 2), (47, .iload 4, 2), (49, .iload_n 3, 1), (50, .if_icmp .ge 53, 3), (53, .aload_n 0, 1), (54, .getfield 7, 3), (57, .iload 4, 2), (59, .iload 4, 2), (61, .iload_n 1, 1), (62, .aload_n 0, 1), (63, .getfield 78, 3), (66, .iadd, 1), (67, .if_icmp .ge 15, 3), (70, .aload_n 0, 1), (71, .getfield 16, 3), (74, .iload 4, 2), (76, .iload_n 1, 1), (77, .isub, 1), (78, .iaload, 1), (79, .goto 17, 3), (82, .aload_n 0, 1), (83, .getfield 13, 3), (86, .iload 4, 2), (88, .aload_n 0, 1), (89, .getfield 78, 3), (92, .isub, 1), (93, .iload_n 2, 1), (94, .iadd, 1), (95, .iaload, 1), (96, .iastore, 1), (97, .iinc 4 1, 3), (100, .goto (-53), 3), (103, .aload_n 0, 1), (104, .iload_n 3, 1), (105, .putfield 75, 3), (108, .aload_n 0, 1), (109, .getfield 19, 3), (112, .ifCond .lt 21, 3), (115, .aload_n 0, 1), (116, .aload_n 0, 1), (117, .getfield 19, 3), (120, .iload_n 1, 1), (121, .iload_n 2, 1), (122, .aload_n 0, 1), (123, .getfield 78, 3), (126, .iconst 0, 1), (127, .invokestatic 81, 3), (130, .putfield 19, 3), (133, .iconst 0, 1), (134, .istore 4, 2), (136, .iload 4, 2), (138, .iconst 4, 1), (139, .if_icmp .ge 49, 3), (142, .aload_n 0, 1), (143, .getfield 29, 3), (146, .iload 4, 2), (148, .iaload, 1), (149, .ifCond .lt 33, 3), (152, .aload_n 0, 1), (153, .getfield 29, 3), (156, .iload 4, 2), (158, .aload_n 0, 1), (159, .getfield 29, 3), (162, .iload 4, 2), (164, .iaload, 1), (165, .iload_n 1, 1), (166, .iload_n 2, 1), (167, .aload_n 0, 1), (168, .getfield 78, 3), (171, .aload_n 0, 1), (172, .getfield 32, 3), (175, .iload 4, 2), (177, .baload, 1), (178, .invokestatic 81, 3), (181, .iastore, 1), (182, .iinc 4 1, 3), (185, .goto (-49), 3), (188, .return_, 1)]
def qR_edit : mm_M := (⟨"EditorCoreModel", "edit", "(II)V"⟩, prog_10_method_4_code, mm_cd qR_edit_t, 5, none, { frames := 1, cells := 0, slots := 0, locals := 38 }, mm_fl fl_R)
theorem qR_edit_ok : mm_ok qR_edit := ⟨mm_cd_ok qR_edit_t (by decide +kernel), mm_fl_ok fl_R fl_R_ok⟩
theorem qR_edit_k : mm_LkV qR_edit 2 8 := ⟨⟨wd_641, ⟨by decide +kernel, by decide +kernel, by decide +kernel⟩, wd_9⟩, wd_640, ws_26, ⟨_, _, rfl⟩⟩
def qR_moved_t : List (Nat × Instr × Nat) := [(0, .iload_n 0, 1), (1, .iload_n 1, 1), (2, .if_icmp .lt 12, 3), (5, .iload_n 0, 1), (6, .iload_n 1, 1), (7, .if_icmp .ne 9, 3), (10, .iload_n 2, 1), (11, .ifCond .le 5, 3), (14, .iload_n 0, 1), (15, .ireturn, 1), (16, .iload_n 0, 1), (17, .iload_n 1, 1), (18, .if_icmp .ne 16, 3), (21, .iload 4, 2), (23, .ifCond .eq 9, 3), (26, .iload_n 1, 1), (27, .iload_n 3, 1), (28, .iadd, 1), (29, .goto 4, 3), (32, .iload_n 1, 1), (33, .ireturn, 1), (34, .iload_n 0, 1), (35, .iload_n 1, 1), (36, .iload_n 2, 1), (37, .iadd, 1), (38, .if_icmp .ge 7, 3), (41, .iload_n 1, 1), (42, .goto 8, 3), (45, .iload_n 0, 1), (46, .iload_n 3, 1), (47, .iadd, 1), (48, .iload_n 2, 1), (49, .isub, 1), (50, .ireturn, 1)]
def qR_moved : mm_M := (⟨"EditorCoreModel", "moved", "(IIIIZ)I"⟩, prog_10_method_3_code, mm_cd qR_moved_t, 5, some .int, { frames := 0, cells := 0, slots := 0, locals := 0 }, mm_fl fl_R)
theorem qR_moved_ok : mm_ok qR_moved := ⟨mm_cd_ok qR_moved_t (by decide +kernel), mm_fl_ok fl_R fl_R_ok⟩
theorem qR_moved_k : mm_LkS qR_moved 5 := ⟨⟨wd_644, ⟨by decide +kernel, by decide +kernel, by decide +kernel⟩, wd_9⟩, wd_643⟩
def qR_step_t : List (Nat × Instr × Nat) := [(0, .aload_n 0, 1), (1, .dup, 1), (2, .getfield 85, 3), (5, .iconst 1, 1), (6, .iadd, 1), (7, .putfield 85, 3), (10, .aload_n 0, 1), (11, .getfield 85, 3), (14, .bipush 20, 2), (16, .irem, 1), (17, .istore_n 3, 1), (18, .iconst 0, 1), (19, .istore 4, 2), (21, .iload 4, 2), (23, .aload_n 0, 1), (24, .getfield 75, 3), (27, .if_icmp .ge 28, 3), (30, .aload_n 0, 1), (31, .getfield 42, 3), (34, .iload_n 3, 1), (35, .bipush 100, 2), (37, .imul, 1), (38, .iload 4, 2), (40, .iadd, 1), (41, .aload_n 0, 1), (42, .getfield 7, 3), (45, .iload 4, 2), (47, .iaload, 1), (48, .iastore, 1), (49, .iinc 4 1, 3), (52, .goto (-31), 3), (55, .aload_n 0, 1), (56, .getfield 45, 3), (59, .iload_n 3, 1), (60, .aload_n 0, 1), (61, .getfield 75, 3), (64, .iastore, 1), (65, .aload_n 0, 1), (66, .getfield 48, 3), (69, .iload_n 3, 1), (70, .iload_n 1, 1), (71, .iastore, 1), (72, .aload_n 0, 1), (73, .getfield 51, 3), (76, .iload_n 3, 1), (77, .iload_n 2, 1), (78, .iastore, 1), (79, .aload_n 0, 1), (80, .getfield 54, 3), (83, .iload_n 3, 1), (84, .aload_n 0, 1), (85, .getfield 78, 3), (88, .iastore, 1), (89, .aload_n 0, 1), (90, .iload_n 1, 1), (91, .iload_n 2, 1), (92, .invokevirtual 88, 3), (95, .return_, 1)]
def qR_step : mm_M := (⟨"EditorCoreModel", "step", "(II)V"⟩, prog_10_method_5_code, mm_cd qR_step_t, 5, none, { frames := 2, cells := 0, slots := 0, locals := 76 }, mm_fl fl_R)
theorem qR_step_ok : mm_ok qR_step := ⟨mm_cd_ok qR_step_t (by decide +kernel), mm_fl_ok fl_R fl_R_ok⟩
theorem qR_step_k : mm_LkV qR_step 2 8 := ⟨⟨wd_648, ⟨by decide +kernel, by decide +kernel, by decide +kernel⟩, wd_9⟩, wd_647, ws_27, ⟨_, _, rfl⟩⟩
def qR_done_t : List (Nat × Instr × Nat) := [(0, .aload_n 0, 1), (1, .iload_n 1, 1), (2, .putfield 26, 3), (5, .aload_n 0, 1), (6, .iconst 1, 1), (7, .putfield 23, 3), (10, .iconst 0, 1), (11, .ireturn, 1)]
def qR_done : mm_M := (⟨"EditorCoreModel", "done", "(I)I"⟩, prog_10_method_6_code, mm_cd qR_done_t, 2, some .int, { frames := 0, cells := 0, slots := 0, locals := 0 }, mm_fl fl_R)
theorem qR_done_ok : mm_ok qR_done := ⟨mm_cd_ok qR_done_t (by decide +kernel), mm_fl_ok fl_R fl_R_ok⟩
theorem qR_done_k : mm_LkV qR_done 1 8 := ⟨⟨wd_652, ⟨by decide +kernel, by decide +kernel, by decide +kernel⟩, wd_9⟩, wd_651, ws_28, ⟨_, _, rfl⟩⟩
def qR_jot_t : List (Nat × Instr × Nat) := [(0, .aload_n 0, 1), (1, .getfield 192, 3), (4, .ifCond .eq 12, 3), (7, .aload_n 0, 1), (8, .getfield 196, 3), (11, .bipush 12, 2), (13, .if_icmp .ne 4, 3), (16, .return_, 1), (17, .aload_n 0, 1), (18, .getfield 66, 3), (21, .aload_n 0, 1), (22, .getfield 196, 3), (25, .iload_n 1, 1), (26, .iastore, 1), (27, .aload_n 0, 1), (28, .dup, 1), (29, .getfield 196, 3), (32, .iconst 1, 1), (33, .iadd, 1), (34, .putfield 196, 3), (37, .return_, 1)]
def qR_jot : mm_M := (⟨"EditorCoreModel", "jot", "(I)V"⟩, prog_10_method_30_code, mm_cd qR_jot_t, 2, none, { frames := 0, cells := 0, slots := 0, locals := 0 }, mm_fl fl_R)
theorem qR_jot_ok : mm_ok qR_jot := ⟨mm_cd_ok qR_jot_t (by decide +kernel), mm_fl_ok fl_R fl_R_ok⟩
theorem qR_jot_k : mm_LkV qR_jot 1 8 := ⟨⟨wd_656, ⟨by decide +kernel, by decide +kernel, by decide +kernel⟩, wd_9⟩, wd_655, ws_29, ⟨_, _, rfl⟩⟩
def qR_command_t : List (Nat × Instr × Nat) := [(0, .iload_n 1, 1), (1, .ifCond .lt 9, 3), (4, .iload_n 1, 1), (5, .bipush 21, 2), (7, .if_icmp .le 5, 3), (10, .iconst (-1), 1), (11, .ireturn, 1), (12, .iload_n 1, 1), (13, .bipush 21, 2), (15, .if_icmp .ne 10, 3), (18, .aload_n 0, 1), (19, .invokevirtual 211, 3), (22, .goto 8, 3), (25, .aload_n 0, 1), (26, .iload_n 1, 1), (27, .invokevirtual 205, 3), (30, .ireturn, 1)]
def qR_command : mm_M := (⟨"EditorCoreModel", "command", "(I)I"⟩, prog_10_method_32_code, mm_cd qR_command_t, 2, some .int, { frames := 8, cells := 0, slots := 0, locals := 304 }, mm_fl fl_R)
theorem qR_command_ok : mm_ok qR_command := ⟨mm_cd_ok qR_command_t (by decide +kernel), mm_fl_ok fl_R fl_R_ok⟩
theorem qR_command_k : mm_LkV qR_command 1 8 := ⟨⟨wd_660, ⟨by decide +kernel, by decide +kernel, by decide +kernel⟩, wd_9⟩, wd_658, wd_659, ⟨_, _, rfl⟩⟩
def qR_play_t : List (Nat × Instr × Nat) := [(0, .aload_n 0, 1), (1, .getfield 192, 3), (4, .ifCond .ne 10, 3), (7, .aload_n 0, 1), (8, .getfield 196, 3), (11, .ifCond .ne 6, 3), (14, .bipush (-2), 2), (16, .ireturn, 1), (17, .aload_n 0, 1), (18, .getfield 23, 3), (21, .istore_n 1, 1), (22, .iconst 0, 1), (23, .istore_n 2, 1), (24, .aload_n 0, 1), (25, .iconst 1, 1), (26, .putfield 23, 3), (29, .iconst 0, 1), (30, .istore_n 3, 1), (31, .iload_n 3, 1), (32, .iload_n 1, 1), (33, .if_icmp .ge 127, 3), (36, .iconst 0, 1), (37, .istore 4, 2), (39, .iload 4, 2), (41, .aload_n 0, 1), (42, .getfield 196, 3), (45, .if_icmp .ge 109, 3), (48, .aload_n 0, 1), (49, .getfield 66, 3), (52, .iload 4, 2), (54, .iaload, 1), (55, .sipush 1000, 3), (58, .if_icmp .lt 23, 3), (61, .aload_n 0, 1), (62, .aload_n 0, 1), (63, .getfield 66, 3), (66, .iload 4, 2), (68, .iaload, 1), (69, .sipush 1000, 3), (72, .isub, 1), (73, .invokevirtual 199, 3), (76, .istore 5, 2), (78, .goto 50, 3), (81, .aload_n 0, 1), (82, .aload_n 0, 1), (83, .getfield 66, 3), (86, .iload 4, 2), (88, .iaload, 1), (89, .invokevirtual 202, 3), (92, .istore 5, 2), (94, .iload 5, 2), (96, .bipush 21, 2), (98, .if_icmp .ne 10, 3), (101, .bipush (-2), 2), (103, .istore 5, 2), (105, .goto 23, 3), (108, .iload 5, 2), (110, .ifCond .lt 18, 3), (113, .iload 5, 2), (115, .bipush 21, 2), (117, .if_icmp .ge 11, 3), (120, .aload_n 0, 1), (121, .iload 5, 2), (123, .invokevirtual 205, 3), (126, .istore 5, 2), (128, .iload 5, 2), (130, .ifCond .ge 15, 3), (133, .iload_n 2, 1), (134, .ifCond .ne 9, 3), (137, .aload_n 0, 1), (138, .bipush 21, 2), (140, .putfield 26, 3), (143, .iload_n 2, 1), (144, .ireturn, 1), (145, .iinc 2 1, 3), (148, .iinc 4 1, 3), (151, .goto (-112), 3), (154, .iinc 3 1, 3), (157, .goto (-126), 3), (160, .iload_n 2, 1), (161, .ireturn, 1)]
def qR_play : mm_M := (⟨"EditorCoreModel", "play", "()I"⟩, prog_10_method_29_code, mm_cd qR_play_t, 6, some .int, { frames := 7, cells := 0, slots := 0, locals := 266 }, mm_fl fl_R)
theorem qR_play_ok : mm_ok qR_play := ⟨mm_cd_ok qR_play_t (by decide +kernel), mm_fl_ok fl_R fl_R_ok⟩
theorem qR_play_k : mm_LkV qR_play 0 8 := ⟨⟨wd_664, ⟨by decide +kernel, by decide +kernel, by decide +kernel⟩, wd_9⟩, wd_663, ws_30, ⟨_, _, rfl⟩⟩
def qR_resolve_t : List (Nat × Instr × Nat) := [(0, .aload_n 0, 1), (1, .getfield 63, 3), (4, .aload_n 0, 1), (5, .getfield 189, 3), (8, .iload_n 1, 1), (9, .iastore, 1), (10, .aload_n 0, 1), (11, .dup, 1), (12, .getfield 189, 3), (15, .iconst 1, 1), (16, .iadd, 1), (17, .putfield 189, 3), (20, .iconst 0, 1), (21, .istore_n 2, 1), (22, .iconst 0, 1), (23, .istore_n 3, 1), (24, .iload_n 3, 1), (25, .aload_n 0, 1), (26, .getfield 176, 3), (29, .if_icmp .ge 83, 3), (32, .aload_n 0, 1), (33, .iload_n 3, 1), (34, .aload_n 0, 1), (35, .getfield 189, 3), (38, .aload_n 0, 1), (39, .getfield 63, 3), (42, .iconst 0, 1), (43, .iaload, 1), (44, .aload_n 0, 1), (45, .getfield 63, 3), (48, .iconst 1, 1), (49, .iaload, 1), (50, .aload_n 0, 1), (51, .getfield 63, 3), (54, .iconst 2, 1), (55, .iaload, 1), (56, .invokevirtual 182, 3), (59, .ifCond .eq 47, 3), (62, .aload_n 0, 1), (63, .iload_n 3, 1), (64, .invokevirtual 179, 3), (67, .aload_n 0, 1), (68, .getfield 189, 3), (71, .if_icmp .ge 6, 3), (74, .goto 32, 3), (77, .aload_n 0, 1), (78, .iload_n 3, 1), (79, .invokevirtual 179, 3), (82, .aload_n 0, 1), (83, .getfield 189, 3), (86, .if_icmp .le 8, 3), (89, .iconst 1, 1), (90, .istore_n 2, 1), (91, .goto 15, 3), (94, .aload_n 0, 1), (95, .iconst 0, 1), (96, .putfield 189, 3), (99, .aload_n 0, 1), (100, .getfield 60, 3), (103, .iload_n 3, 1), (104, .iaload, 1), (105, .ireturn, 1), (106, .iinc 3 1, 3), (109, .goto (-85), 3), (112, .iload_n 2, 1), (113, .ifCond .eq 7, 3), (116, .sipush 1000, 3), (119, .ireturn, 1), (120, .aload_n 0, 1), (121, .iconst 0, 1), (122, .putfield 189, 3), (125, .bipush (-4), 2), (127, .ireturn, 1)]
def qR_resolve : mm_M := (⟨"EditorCoreModel", "resolve", "(I)I"⟩, prog_10_method_28_code, mm_cd qR_resolve_t, 4, some .int, { frames := 1, cells := 0, slots := 0, locals := 38 }, mm_fl fl_R)
theorem qR_resolve_ok : mm_ok qR_resolve := ⟨mm_cd_ok qR_resolve_t (by decide +kernel), mm_fl_ok fl_R fl_R_ok⟩
theorem qR_resolve_k : mm_LkV qR_resolve 1 8 := ⟨⟨wd_668, ⟨by decide +kernel, by decide +kernel, by decide +kernel⟩, wd_9⟩, wd_667, ws_31, ⟨_, _, rfl⟩⟩
def qR_perform_t : List (Nat × Instr × Nat) := [(0, .aload_n 0, 1), (1, .iload_n 1, 1), (2, .invokevirtual 173, 3), (5, .istore_n 2, 1), (6, .iload_n 2, 1), (7, .ifCond .ge 7, 3), (10, .iload_n 2, 1), (11, .goto 8, 3), (14, .aload_n 0, 1), (15, .iload_n 1, 1), (16, .invokevirtual 102, 3), (19, .ireturn, 1)]
def qR_perform : mm_M := (⟨"EditorCoreModel", "perform", "(I)I"⟩, prog_10_method_23_code, mm_cd qR_perform_t, 3, some .int, { frames := 6, cells := 0, slots := 0, locals := 228 }, mm_fl fl_R)
theorem qR_perform_ok : mm_ok qR_perform := ⟨mm_cd_ok qR_perform_t (by decide +kernel), mm_fl_ok fl_R fl_R_ok⟩
theorem qR_perform_k : mm_LkV qR_perform 1 8 := ⟨⟨wd_672, ⟨by decide +kernel, by decide +kernel, by decide +kernel⟩, wd_9⟩, wd_671, ws_32, ⟨_, _, rfl⟩⟩
def qR_work_t : List (Nat × Instr × Nat) := [(0, .iload_n 1, 1), (1, .tableswitch 256 8 20 #[67, 108, 149, 154, 160, 166, 189, 256, 236, 241, 256, 246, 251], 67), (68, .aload_n 0, 1), (69, .aload_n 0, 1), (70, .getfield 96, 3), (73, .aload_n 0, 1), (74, .getfield 75, 3), (77, .aload_n 0, 1), (78, .getfield 96, 3), (81, .isub, 1), (82, .aload_n 0, 1), (83, .getfield 23, 3), (86, .if_icmp .ge 15, 3), (89, .aload_n 0, 1), (90, .getfield 75, 3), (93, .aload_n 0, 1), (94, .getfield 96, 3), (97, .isub, 1), (98, .goto 7, 3), (101, .aload_n 0, 1), (102, .getfield 23, 3), (105, .invokevirtual 122, 3), (108, .ireturn, 1), (109, .aload_n 0, 1), (110, .getfield 96, 3), (113, .aload_n 0, 1), (114, .getfield 23, 3), (117, .if_icmp .ge 15, 3), (120, .aload_n 0, 1), (121, .iconst 0, 1), (122, .aload_n 0, 1), (123, .getfield 96, 3), (126, .invokevirtual 122, 3), (129, .goto 20, 3), (132, .aload_n 0, 1), (133, .aload_n 0, 1), (134, .getfield 96, 3), (137, .aload_n 0, 1), (138, .getfield 23, 3), (141, .isub, 1), (142, .aload_n 0, 1), (143, .getfield 23, 3), (146, .invokevirtual 122, 3), (149, .ireturn, 1), (150, .aload_n 0, 1), (151, .invokevirtual 146, 3), (154, .ireturn, 1), (155, .aload_n 0, 1), (156, .iconst 0, 1), (157, .invokevirtual 150, 3), (160, .ireturn, 1), (161, .aload_n 0, 1), (162, .iconst 1, 1), (163, .invokevirtual 150, 3), (166, .ireturn, 1), (167, .aload_n 0, 1), (168, .getfield 115, 3), (171, .ifCond .ne 8, 3), (174, .bipush (-2), 2), (176, .goto 13, 3), (179, .aload_n 0, 1), (180, .aload_n 0, 1), (181, .getfield 96, 3), (184, .iconst 0, 1), (185, .iconst 0, 1), (186, .invokevirtual 154, 3), (189, .ireturn, 1), (190, .aload_n 0, 1), (191, .getfield 26, 3), (194, .bipush 13, 2), (196, .if_icmp .eq 17, 3), (199, .aload_n 0, 1), (200, .getfield 26, 3), (203, .bipush 14, 2), (205, .if_icmp .eq 8, 3), (208, .bipush (-2), 2), (210, .goto 26, 3), (213, .aload_n 0, 1), (214, .aload_n 0, 1), (215, .getfield 126, 3), (218, .aload_n 0, 1), (219, .getfield 129, 3), (222, .aload_n 0, 1), (223, .getfield 132, 3), (226, .iconst 1, 1), (227, .iadd, 1), (228, .aload_n 0, 1), (229, .getfield 115, 3), (232, .irem, 1), (233, .invokevirtual 154, 3), (236, .ireturn, 1), (237, .aload_n 0, 1), (238, .invokevirtual 158, 3), (241, .ireturn, 1), (242, .aload_n 0, 1), (243, .invokevirtual 161, 3), (246, .ireturn, 1), (247, .aload_n 0, 1), (248, .invokevirtual 164, 3), (251, .ireturn, 1), (252, .aload_n 0, 1), (253, .invokevirtual 167, 3), (256, .ireturn, 1), (257, .aload_n 0, 1), (258, .iload_n 1, 1), (259, .invokevirtual 170, 3), (262, .ireturn, 1)]
def qR_work : mm_M := (⟨"EditorCoreModel", "work", "(I)I"⟩, prog_10_method_22_code, mm_cd qR_work_t, 2, some .int, { frames := 5, cells := 0, slots := 0, locals := 190 }, mm_fl fl_R)
theorem qR_work_ok : mm_ok qR_work := ⟨mm_cd_ok qR_work_t (by decide +kernel), mm_fl_ok fl_R fl_R_ok⟩
theorem qR_work_k : mm_LkV qR_work 1 8 := ⟨⟨wd_676, ⟨by decide +kernel, by decide +kernel, by decide +kernel⟩, wd_9⟩, wd_675, ws_33, ⟨_, _, rfl⟩⟩
def qR_erase_t : List (Nat × Instr × Nat) := [(0, .iload_n 2, 1), (1, .ifCond .gt 6, 3), (4, .bipush (-2), 2), (6, .ireturn, 1), (7, .aload_n 0, 1), (8, .iconst 0, 1), (9, .putfield 78, 3), (12, .aload_n 0, 1), (13, .iload_n 1, 1), (14, .iload_n 2, 1), (15, .invokevirtual 99, 3), (18, .aload_n 0, 1), (19, .iload_n 1, 1), (20, .putfield 96, 3), (23, .iconst 0, 1), (24, .ireturn, 1)]
def qR_erase : mm_M := (⟨"EditorCoreModel", "erase", "(II)I"⟩, prog_10_method_12_code, mm_cd qR_erase_t, 3, some .int, { frames := 3, cells := 0, slots := 0, locals := 114 }, mm_fl fl_R)
theorem qR_erase_ok : mm_ok qR_erase := ⟨mm_cd_ok qR_erase_t (by decide +kernel), mm_fl_ok fl_R fl_R_ok⟩
theorem qR_erase_k : mm_LkV qR_erase 2 8 := ⟨⟨wd_680, ⟨by decide +kernel, by decide +kernel, by decide +kernel⟩, wd_9⟩, wd_679, ws_34, ⟨_, _, rfl⟩⟩
def qR_killLine_t : List (Nat × Instr × Nat) := [(0, .aload_n 0, 1), (1, .aload_n 0, 1), (2, .getfield 96, 3), (5, .invokevirtual 112, 3), (8, .istore_n 1, 1), (9, .iload_n 1, 1), (10, .aload_n 0, 1), (11, .getfield 96, 3), (14, .if_icmp .le 12, 3), (17, .iload_n 1, 1), (18, .aload_n 0, 1), (19, .getfield 96, 3), (22, .isub, 1), (23, .goto 19, 3), (26, .aload_n 0, 1), (27, .getfield 96, 3), (30, .aload_n 0, 1), (31, .getfield 75, 3), (34, .if_icmp .ge 7, 3), (37, .iconst 1, 1), (38, .goto 4, 3), (41, .iconst 0, 1), (42, .istore_n 2, 1), (43, .iload_n 2, 1), (44, .ifCond .ne 6, 3), (47, .bipush (-2), 2), (49, .ireturn, 1), (50, .aload_n 0, 1), (51, .aload_n 0, 1), (52, .getfield 96, 3), (55, .iload_n 2, 1), (56, .aload_n 0, 1), (57, .getfield 26, 3), (60, .bipush 10, 2), (62, .if_icmp .eq 12, 3), (65, .aload_n 0, 1), (66, .getfield 26, 3), (69, .bipush 11, 2), (71, .if_icmp .ne 7, 3), (74, .iconst 1, 1), (75, .goto 4, 3), (78, .iconst 0, 1), (79, .invokevirtual 118, 3), (82, .aload_n 0, 1), (83, .aload_n 0, 1), (84, .getfield 96, 3), (87, .iload_n 2, 1), (88, .invokevirtual 122, 3), (91, .ireturn, 1)]
def qR_killLine : mm_M := (⟨"EditorCoreModel", "killLine", "()I"⟩, prog_10_method_14_code, mm_cd qR_killLine_t, 3, some .int, { frames := 4, cells := 0, slots := 0, locals := 152 }, mm_fl fl_R)
theorem qR_killLine_ok : mm_ok qR_killLine := ⟨mm_cd_ok qR_killLine_t (by decide +kernel), mm_fl_ok fl_R fl_R_ok⟩
theorem qR_killLine_k : mm_LkV qR_killLine 0 8 := ⟨⟨wd_684, ⟨by decide +kernel, by decide +kernel, by decide +kernel⟩, wd_9⟩, wd_683, ws_35, ⟨_, _, rfl⟩⟩
def qR_lineEnd_t : List (Nat × Instr × Nat) := [(0, .iload_n 1, 1), (1, .istore_n 2, 1), (2, .iload_n 2, 1), (3, .aload_n 0, 1), (4, .getfield 75, 3), (7, .if_icmp .ge 20, 3), (10, .aload_n 0, 1), (11, .getfield 7, 3), (14, .iload_n 2, 1), (15, .iaload, 1), (16, .bipush 10, 2), (18, .if_icmp .eq 9, 3), (21, .iinc 2 1, 3), (24, .goto (-22), 3), (27, .iload_n 2, 1), (28, .ireturn, 1)]
def qR_lineEnd : mm_M := (⟨"EditorCoreModel", "lineEnd", "(I)I"⟩, prog_10_method_9_code, mm_cd qR_lineEnd_t, 3, some .int, { frames := 0, cells := 0, slots := 0, locals := 0 }, mm_fl fl_R)
theorem qR_lineEnd_ok : mm_ok qR_lineEnd := ⟨mm_cd_ok qR_lineEnd_t (by decide +kernel), mm_fl_ok fl_R fl_R_ok⟩
theorem qR_lineEnd_k : mm_LkV qR_lineEnd 1 8 := ⟨⟨wd_688, ⟨by decide +kernel, by decide +kernel, by decide +kernel⟩, wd_9⟩, wd_687, ws_36, ⟨_, _, rfl⟩⟩
def qR_keep_t : List (Nat × Instr × Nat) := [(0, .iload_n 3, 1), (1, .ifCond .ne 103, 3), (4, .aload_n 0, 1), (5, .getfield 115, 3), (8, .iconst 4, 1), (9, .if_icmp .ge 13, 3), (12, .aload_n 0, 1), (13, .dup, 1), (14, .getfield 115, 3), (17, .iconst 1, 1), (18, .iadd, 1), (19, .putfield 115, 3), (22, .iconst 3, 1), (23, .istore 4, 2), (25, .iload 4, 2), (27, .ifCond .le 70, 3), (30, .aload_n 0, 1), (31, .getfield 39, 3), (34, .iload 4, 2), (36, .aload_n 0, 1), (37, .getfield 39, 3), (40, .iload 4, 2), (42, .iconst 1, 1), (43, .isub, 1), (44, .iaload, 1), (45, .iastore, 1), (46, .iconst 0, 1), (47, .istore 5, 2), (49, .iload 5, 2), (51, .bipush 100, 2), (53, .if_icmp .ge 38, 3), (56, .aload_n 0, 1), (57, .getfield 36, 3), (60, .iload 4, 2), (62, .bipush 100, 2), (64, .imul, 1), (65, .iload 5, 2), (67, .iadd, 1), (68, .aload_n 0, 1), (69, .getfield 36, 3), (72, .iload 4, 2), (74, .bipush 100, 2), (76, .imul, 1), (77, .bipush 100, 2), (79, .isub, 1), (80, .iload 5, 2), (82, .iadd, 1), (83, .iaload, 1), (84, .iastore, 1), (85, .iinc 5 1, 3), (88, .goto (-39), 3), (91, .iinc 4 (-1), 3), (94, .goto (-69), 3), (97, .aload_n 0, 1), (98, .getfield 39, 3), (101, .iconst 0, 1), (102, .iconst 0, 1), (103, .iastore, 1), (104, .iconst 0, 1), (105, .istore 4, 2), (107, .iload 4, 2), (109, .iload_n 2, 1), (110, .if_icmp .ge 32, 3), (113, .aload_n 0, 1), (114, .getfield 36, 3), (117, .aload_n 0, 1), (118, .getfield 39, 3), (121, .iconst 0, 1), (122, .iaload, 1), (123, .iload 4, 2), (125, .iadd, 1), (126, .aload_n 0, 1), (127, .getfield 7, 3), (130, .iload_n 1, 1), (131, .iload 4, 2), (133, .iadd, 1), (134, .iaload, 1), (135, .iastore, 1), (136, .iinc 4 1, 3), (139, .goto (-32), 3), (142, .aload_n 0, 1), (143, .getfield 39, 3), (146, .iconst 0, 1), (147, .dup2, 1), (148, .iaload, 1), (149, .iload_n 2, 1), (150, .iadd, 1), (151, .iastore, 1), (152, .return_, 1)]
def qR_keep : mm_M := (⟨"EditorCoreModel", "keep", "(IIZ)V"⟩, prog_10_method_13_code, mm_cd qR_keep_t, 6, none, { frames := 0, cells := 0, slots := 0, locals := 0 }, mm_fl fl_R)
theorem qR_keep_ok : mm_ok qR_keep := ⟨mm_cd_ok qR_keep_t (by decide +kernel), mm_fl_ok fl_R fl_R_ok⟩
theorem qR_keep_k : mm_LkV qR_keep 3 8 := ⟨⟨wd_692, ⟨by decide +kernel, by decide +kernel, by decide +kernel⟩, wd_9⟩, wd_691, ws_37, ⟨_, _, rfl⟩⟩
def qR_killRegion_t : List (Nat × Instr × Nat) := [(0, .aload_n 0, 1), (1, .getfield 19, 3), (4, .ifCond .lt 14, 3), (7, .aload_n 0, 1), (8, .getfield 19, 3), (11, .aload_n 0, 1), (12, .getfield 96, 3), (15, .if_icmp .ne 6, 3), (18, .bipush (-2), 2), (20, .ireturn, 1), (21, .aload_n 0, 1), (22, .getfield 19, 3), (25, .aload_n 0, 1), (26, .getfield 96, 3), (29, .if_icmp .ge 10, 3), (32, .aload_n 0, 1), (33, .getfield 19, 3), (36, .goto 7, 3), (39, .aload_n 0, 1), (40, .getfield 96, 3), (43, .istore_n 2, 1), (44, .aload_n 0, 1), (45, .getfield 19, 3), (48, .aload_n 0, 1), (49, .getfield 96, 3), (52, .if_icmp .ge 15, 3), (55, .aload_n 0, 1), (56, .getfield 96, 3), (59, .aload_n 0, 1), (60, .getfield 19, 3), (63, .isub, 1), (64, .goto 12, 3), (67, .aload_n 0, 1), (68, .getfield 19, 3), (71, .aload_n 0, 1), (72, .getfield 96, 3), (75, .isub, 1), (76, .istore_n 3, 1), (77, .aload_n 0, 1), (78, .iload_n 2, 1), (79, .iload_n 3, 1), (80, .iconst 0, 1), (81, .invokevirtual 118, 3), (84, .iload_n 1, 1), (85, .ifCond .eq 7, 3), (88, .iconst 0, 1), (89, .goto 9, 3), (92, .aload_n 0, 1), (93, .iload_n 2, 1), (94, .iload_n 3, 1), (95, .invokevirtual 122, 3), (98, .ireturn, 1)]
def qR_killRegion : mm_M := (⟨"EditorCoreModel", "killRegion", "(Z)I"⟩, prog_10_method_15_code, mm_cd qR_killRegion_t, 4, some .int, { frames := 4, cells := 0, slots := 0, locals := 152 }, mm_fl fl_R)
theorem qR_killRegion_ok : mm_ok qR_killRegion := ⟨mm_cd_ok qR_killRegion_t (by decide +kernel), mm_fl_ok fl_R fl_R_ok⟩
theorem qR_killRegion_k : mm_LkV qR_killRegion 1 8 := ⟨⟨wd_696, ⟨by decide +kernel, by decide +kernel, by decide +kernel⟩, wd_9⟩, wd_695, ws_38, ⟨_, _, rfl⟩⟩
def qR_yank_t : List (Nat × Instr × Nat) := [(0, .aload_n 0, 1), (1, .getfield 75, 3), (4, .iload_n 2, 1), (5, .isub, 1), (6, .aload_n 0, 1), (7, .getfield 39, 3), (10, .iload_n 3, 1), (11, .iaload, 1), (12, .iadd, 1), (13, .bipush 100, 2), (15, .if_icmp .le 6, 3), (18, .bipush (-3), 2), (20, .ireturn, 1), (21, .aload_n 0, 1), (22, .aload_n 0, 1), (23, .getfield 39, 3), (26, .iload_n 3, 1), (27, .iaload, 1), (28, .putfield 78, 3), (31, .iconst 0, 1), (32, .istore 4, 2), (34, .iload 4, 2), (36, .aload_n 0, 1), (37, .getfield 78, 3), (40, .if_icmp .ge 28, 3), (43, .aload_n 0, 1), (44, .getfield 16, 3), (47, .iload 4, 2), (49, .aload_n 0, 1), (50, .getfield 36, 3), (53, .iload_n 3, 1), (54, .bipush 100, 2), (56, .imul, 1), (57, .iload 4, 2), (59, .iadd, 1), (60, .iaload, 1), (61, .iastore, 1), (62, .iinc 4 1, 3), (65, .goto (-31), 3), (68, .aload_n 0, 1), (69, .iload_n 1, 1), (70, .iload_n 2, 1), (71, .invokevirtual 99, 3), (74, .aload_n 0, 1), (75, .iload_n 1, 1), (76, .aload_n 0, 1), (77, .getfield 78, 3), (80, .iadd, 1), (81, .putfield 96, 3), (84, .aload_n 0, 1), (85, .iload_n 1, 1), (86, .putfield 19, 3), (89, .aload_n 0, 1), (90, .iload_n 1, 1), (91, .putfield 126, 3), (94, .aload_n 0, 1), (95, .aload_n 0, 1), (96, .getfield 78, 3), (99, .putfield 129, 3), (102, .aload_n 0, 1), (103, .iload_n 3, 1), (104, .putfield 132, 3), (107, .iconst 0, 1), (108, .ireturn, 1)]
def qR_yank : mm_M := (⟨"EditorCoreModel", "yank", "(III)I"⟩, prog_10_method_16_code, mm_cd qR_yank_t, 5, some .int, { frames := 3, cells := 0, slots := 0, locals := 114 }, mm_fl fl_R)
theorem qR_yank_ok : mm_ok qR_yank := ⟨mm_cd_ok qR_yank_t (by decide +kernel), mm_fl_ok fl_R fl_R_ok⟩
theorem qR_yank_k : mm_LkV qR_yank 3 8 := ⟨⟨wd_700, ⟨by decide +kernel, by decide +kernel, by decide +kernel⟩, wd_9⟩, wd_699, ws_39, ⟨_, _, rfl⟩⟩
def qR_exchange_t : List (Nat × Instr × Nat) := [(0, .aload_n 0, 1), (1, .getfield 19, 3), (4, .ifCond .ge 6, 3), (7, .bipush (-2), 2), (9, .ireturn, 1), (10, .aload_n 0, 1), (11, .getfield 19, 3), (14, .istore_n 1, 1), (15, .aload_n 0, 1), (16, .aload_n 0, 1), (17, .getfield 96, 3), (20, .putfield 19, 3), (23, .aload_n 0, 1), (24, .iload_n 1, 1), (25, .putfield 96, 3), (28, .iconst 0, 1), (29, .ireturn, 1)]
def qR_exchange : mm_M := (⟨"EditorCoreModel", "exchange", "()I"⟩, prog_10_method_20_code, mm_cd qR_exchange_t, 2, some .int, { frames := 0, cells := 0, slots := 0, locals := 0 }, mm_fl fl_R)
theorem qR_exchange_ok : mm_ok qR_exchange := ⟨mm_cd_ok qR_exchange_t (by decide +kernel), mm_fl_ok fl_R fl_R_ok⟩
theorem qR_exchange_k : mm_LkV qR_exchange 0 8 := ⟨⟨wd_704, ⟨by decide +kernel, by decide +kernel, by decide +kernel⟩, wd_9⟩, wd_703, ws_40, ⟨_, _, rfl⟩⟩
def qR_swap_t : List (Nat × Instr × Nat) := [(0, .aload_n 0, 1), (1, .getfield 96, 3), (4, .ifCond .eq 14, 3), (7, .aload_n 0, 1), (8, .getfield 96, 3), (11, .aload_n 0, 1), (12, .getfield 75, 3), (15, .if_icmp .ne 6, 3), (18, .bipush (-2), 2), (20, .ireturn, 1), (21, .aload_n 0, 1), (22, .iconst 2, 1), (23, .putfield 78, 3), (26, .aload_n 0, 1), (27, .getfield 16, 3), (30, .iconst 0, 1), (31, .aload_n 0, 1), (32, .getfield 7, 3), (35, .aload_n 0, 1), (36, .getfield 96, 3), (39, .iaload, 1), (40, .iastore, 1), (41, .aload_n 0, 1), (42, .getfield 16, 3), (45, .iconst 1, 1), (46, .aload_n 0, 1), (47, .getfield 7, 3), (50, .aload_n 0, 1), (51, .getfield 96, 3), (54, .iconst 1, 1), (55, .isub, 1), (56, .iaload, 1), (57, .iastore, 1), (58, .aload_n 0, 1), (59, .getfield 96, 3), (62, .iconst 1, 1), (63, .isub, 1), (64, .istore_n 1, 1), (65, .aload_n 0, 1), (66, .iload_n 1, 1), (67, .iconst 2, 1), (68, .invokevirtual 99, 3), (71, .aload_n 0, 1), (72, .iload_n 1, 1), (73, .iconst 2, 1), (74, .iadd, 1), (75, .putfield 96, 3), (78, .iconst 0, 1), (79, .ireturn, 1)]
def qR_swap : mm_M := (⟨"EditorCoreModel", "swap", "()I"⟩, prog_10_method_17_code, mm_cd qR_swap_t, 2, some .int, { frames := 3, cells := 0, slots := 0, locals := 114 }, mm_fl fl_R)
theorem qR_swap_ok : mm_ok qR_swap := ⟨mm_cd_ok qR_swap_t (by decide +kernel), mm_fl_ok fl_R fl_R_ok⟩
theorem qR_swap_k : mm_LkV qR_swap 0 8 := ⟨⟨wd_708, ⟨by decide +kernel, by decide +kernel, by decide +kernel⟩, wd_9⟩, wd_707, ws_41, ⟨_, _, rfl⟩⟩
def qR_undo_t : List (Nat × Instr × Nat) := [(0, .aload_n 0, 1), (1, .getfield 26, 3), (4, .bipush 19, 2), (6, .if_icmp .ne 12, 3), (9, .aload_n 0, 1), (10, .getfield 135, 3), (13, .iconst 1, 1), (14, .isub, 1), (15, .goto 7, 3), (18, .aload_n 0, 1), (19, .getfield 85, 3), (22, .istore_n 1, 1), (23, .iload_n 1, 1), (24, .iconst 1, 1), (25, .if_icmp .lt 14, 3), (28, .iload_n 1, 1), (29, .aload_n 0, 1), (30, .getfield 85, 3), (33, .bipush 20, 2), (35, .isub, 1), (36, .if_icmp .gt 6, 3), (39, .bipush (-2), 2), (41, .ireturn, 1), (42, .iload_n 1, 1), (43, .bipush 20, 2), (45, .irem, 1), (46, .istore_n 2, 1), (47, .aload_n 0, 1), (48, .aload_n 0, 1), (49, .getfield 51, 3), (52, .iload_n 2, 1), (53, .iaload, 1), (54, .putfield 78, 3), (57, .iconst 0, 1), (58, .istore_n 3, 1), (59, .iload_n 3, 1), (60, .aload_n 0, 1), (61, .getfield 78, 3), (64, .if_icmp .ge 33, 3), (67, .aload_n 0, 1), (68, .getfield 16, 3), (71, .iload_n 3, 1), (72, .aload_n 0, 1), (73, .getfield 42, 3), (76, .iload_n 2, 1), (77, .bipush 100, 2), (79, .imul, 1), (80, .aload_n 0, 1), (81, .getfield 48, 3), (84, .iload_n 2, 1), (85, .iaload, 1), (86, .iadd, 1), (87, .iload_n 3, 1), (88, .iadd, 1), (89, .iaload, 1), (90, .iastore, 1), (91, .iinc 3 1, 3), (94, .goto (-35), 3), (97, .aload_n 0, 1), (98, .getfield 48, 3), (101, .iload_n 2, 1), (102, .iaload, 1), (103, .istore_n 3, 1), (104, .aload_n 0, 1), (105, .getfield 54, 3), (108, .iload_n 2, 1), (109, .iaload, 1), (110, .istore 4, 2), (112, .aload_n 0, 1), (113, .iload_n 3, 1), (114, .iload 4, 2), (116, .invokevirtual 99, 3), (119, .aload_n 0, 1), (120, .iload_n 3, 1), (121, .aload_n 0, 1), (122, .getfield 78, 3), (125, .iadd, 1), (126, .putfield 96, 3), (129, .aload_n 0, 1), (130, .iload_n 1, 1), (131, .putfield 135, 3), (134, .iconst 0, 1), (135, .ireturn, 1)]
def qR_undo : mm_M := (⟨"EditorCoreModel", "undo", "()I"⟩, prog_10_method_18_code, mm_cd qR_undo_t, 5, some .int, { frames := 3, cells := 0, slots := 0, locals := 114 }, mm_fl fl_R)
theorem qR_undo_ok : mm_ok qR_undo := ⟨mm_cd_ok qR_undo_t (by decide +kernel), mm_fl_ok fl_R fl_R_ok⟩
theorem qR_undo_k : mm_LkV qR_undo 0 8 := ⟨⟨wd_712, ⟨by decide +kernel, by decide +kernel, by decide +kernel⟩, wd_9⟩, wd_711, ws_42, ⟨_, _, rfl⟩⟩
def qR_search_t : List (Nat × Instr × Nat) := [(0, .aload_n 0, 1), (1, .getfield 115, 3), (4, .ifCond .ne 6, 3), (7, .bipush (-2), 2), (9, .ireturn, 1), (10, .aload_n 0, 1), (11, .getfield 96, 3), (14, .istore_n 1, 1), (15, .iload_n 1, 1), (16, .aload_n 0, 1), (17, .getfield 39, 3), (20, .iconst 0, 1), (21, .iaload, 1), (22, .iadd, 1), (23, .aload_n 0, 1), (24, .getfield 75, 3), (27, .if_icmp .gt 69, 3), (30, .iconst 1, 1), (31, .istore_n 2, 1), (32, .iconst 0, 1), (33, .istore_n 3, 1), (34, .iload_n 3, 1), (35, .aload_n 0, 1), (36, .getfield 39, 3), (39, .iconst 0, 1), (40, .iaload, 1), (41, .if_icmp .ge 28, 3), (44, .aload_n 0, 1), (45, .getfield 7, 3), (48, .iload_n 1, 1), (49, .iload_n 3, 1), (50, .iadd, 1), (51, .iaload, 1), (52, .aload_n 0, 1), (53, .getfield 36, 3), (56, .iload_n 3, 1), (57, .iaload, 1), (58, .if_icmp .eq 5, 3), (61, .iconst 0, 1), (62, .istore_n 2, 1), (63, .iinc 3 1, 3), (66, .goto (-32), 3), (69, .iload_n 2, 1), (70, .ifCond .ne 6, 3), (73, .goto 17, 3), (76, .aload_n 0, 1), (77, .iload_n 1, 1), (78, .aload_n 0, 1), (79, .getfield 39, 3), (82, .iconst 0, 1), (83, .iaload, 1), (84, .iadd, 1), (85, .putfield 96, 3), (88, .iconst 0, 1), (89, .ireturn, 1), (90, .iinc 1 1, 3), (93, .goto (-78), 3), (96, .bipush (-2), 2), (98, .ireturn, 1)]
def qR_search : mm_M := (⟨"EditorCoreModel", "search", "()I"⟩, prog_10_method_19_code, mm_cd qR_search_t, 4, some .int, { frames := 0, cells := 0, slots := 0, locals := 0 }, mm_fl fl_R)
theorem qR_search_ok : mm_ok qR_search := ⟨mm_cd_ok qR_search_t (by decide +kernel), mm_fl_ok fl_R fl_R_ok⟩
theorem qR_search_k : mm_LkV qR_search 0 8 := ⟨⟨wd_716, ⟨by decide +kernel, by decide +kernel, by decide +kernel⟩, wd_9⟩, wd_715, ws_43, ⟨_, _, rfl⟩⟩
def qR_move_t : List (Nat × Instr × Nat) := [(0, .iload_n 1, 1), (1, .ifCond .ne 39, 3), (4, .aload_n 0, 1), (5, .aload_n 0, 1), (6, .getfield 96, 3), (9, .aload_n 0, 1), (10, .getfield 23, 3), (13, .iadd, 1), (14, .aload_n 0, 1), (15, .getfield 75, 3), (18, .if_icmp .ge 15, 3), (21, .aload_n 0, 1), (22, .getfield 96, 3), (25, .aload_n 0, 1), (26, .getfield 23, 3), (29, .iadd, 1), (30, .goto 7, 3), (33, .aload_n 0, 1), (34, .getfield 75, 3), (37, .putfield 96, 3), (40, .iload_n 1, 1), (41, .iconst 1, 1), (42, .if_icmp .ne 31, 3), (45, .aload_n 0, 1), (46, .aload_n 0, 1), (47, .getfield 96, 3), (50, .aload_n 0, 1), (51, .getfield 23, 3), (54, .if_icmp .le 15, 3), (57, .aload_n 0, 1), (58, .getfield 96, 3), (61, .aload_n 0, 1), (62, .getfield 23, 3), (65, .isub, 1), (66, .goto 4, 3), (69, .iconst 0, 1), (70, .putfield 96, 3), (73, .iload_n 1, 1), (74, .iconst 2, 1), (75, .if_icmp .eq 8, 3), (78, .iload_n 1, 1), (79, .iconst 3, 1), (80, .if_icmp .ne 8, 3), (83, .aload_n 0, 1), (84, .iload_n 1, 1), (85, .invokevirtual 138, 3), (88, .iload_n 1, 1), (89, .iconst 4, 1), (90, .if_icmp .ne 15, 3), (93, .aload_n 0, 1), (94, .aload_n 0, 1), (95, .aload_n 0, 1), (96, .getfield 96, 3), (99, .invokevirtual 106, 3), (102, .putfield 96, 3), (105, .iload_n 1, 1), (106, .iconst 5, 1), (107, .if_icmp .ne 15, 3), (110, .aload_n 0, 1), (111, .aload_n 0, 1), (112, .aload_n 0, 1), (113, .getfield 96, 3), (116, .invokevirtual 112, 3), (119, .putfield 96, 3), (122, .iload_n 1, 1), (123, .bipush 6, 2), (125, .if_icmp .eq 9, 3), (128, .iload_n 1, 1), (129, .bipush 7, 2), (131, .if_icmp .ne 18, 3), (134, .aload_n 0, 1), (135, .iload_n 1, 1), (136, .bipush 7, 2), (138, .if_icmp .ne 7, 3), (141, .iconst 1, 1), (142, .goto 4, 3), (145, .iconst 0, 1), (146, .invokevirtual 142, 3), (149, .iload_n 1, 1), (150, .bipush 15, 2), (152, .if_icmp .ne 11, 3), (155, .aload_n 0, 1), (156, .aload_n 0, 1), (157, .getfield 96, 3), (160, .putfield 19, 3), (163, .iload_n 1, 1), (164, .bipush 18, 2), (166, .if_icmp .eq 5, 3), (169, .iconst 0, 1), (170, .ireturn, 1), (171, .aload_n 0, 1), (172, .iconst 0, 1), (173, .putfield 96, 3), (176, .aload_n 0, 1), (177, .aload_n 0, 1), (178, .getfield 75, 3), (181, .putfield 19, 3), (184, .iconst 0, 1), (185, .ireturn, 1)]
def qR_move : mm_M := (⟨"EditorCoreModel", "move", "(I)I"⟩, prog_10_method_21_code, mm_cd qR_move_t, 2, some .int, { frames := 2, cells := 0, slots := 0, locals := 76 }, mm_fl fl_R)
theorem qR_move_ok : mm_ok qR_move := ⟨mm_cd_ok qR_move_t (by decide +kernel), mm_fl_ok fl_R fl_R_ok⟩
theorem qR_move_k : mm_LkV qR_move 1 8 := ⟨⟨wd_720, ⟨by decide +kernel, by decide +kernel, by decide +kernel⟩, wd_9⟩, wd_719, ws_44, ⟨_, _, rfl⟩⟩
def qR_vertical_t : List (Nat × Instr × Nat) := [(0, .aload_n 0, 1), (1, .getfield 26, 3), (4, .iconst 2, 1), (5, .if_icmp .eq 28, 3), (8, .aload_n 0, 1), (9, .getfield 26, 3), (12, .iconst 3, 1), (13, .if_icmp .eq 20, 3), (16, .aload_n 0, 1), (17, .aload_n 0, 1), (18, .getfield 96, 3), (21, .aload_n 0, 1), (22, .aload_n 0, 1), (23, .getfield 96, 3), (26, .invokevirtual 106, 3), (29, .isub, 1), (30, .putfield 109, 3), (33, .aload_n 0, 1), (34, .aload_n 0, 1), (35, .getfield 96, 3), (38, .invokevirtual 106, 3), (41, .istore_n 2, 1), (42, .iconst 0, 1), (43, .istore_n 3, 1), (44, .iload_n 3, 1), (45, .aload_n 0, 1), (46, .getfield 23, 3), (49, .if_icmp .ge 52, 3), (52, .aload_n 0, 1), (53, .iload_n 2, 1), (54, .invokevirtual 112, 3), (57, .istore 4, 2), (59, .iload_n 1, 1), (60, .iconst 2, 1), (61, .if_icmp .ne 17, 3), (64, .iload 4, 2), (66, .aload_n 0, 1), (67, .getfield 75, 3), (70, .if_icmp .ge 8, 3), (73, .iload 4, 2), (75, .iconst 1, 1), (76, .iadd, 1), (77, .istore_n 2, 1), (78, .iload_n 1, 1), (79, .iconst 3, 1), (80, .if_icmp .ne 15, 3), (83, .iload_n 2, 1), (84, .ifCond .le 11, 3), (87, .aload_n 0, 1), (88, .iload_n 2, 1), (89, .iconst 1, 1), (90, .isub, 1), (91, .invokevirtual 106, 3), (94, .istore_n 2, 1), (95, .iinc 3 1, 3), (98, .goto (-54), 3), (101, .aload_n 0, 1), (102, .iload_n 2, 1), (103, .invokevirtual 112, 3), (106, .istore_n 3, 1), (107, .aload_n 0, 1), (108, .iload_n 2, 1), (109, .aload_n 0, 1), (110, .getfield 109, 3), (113, .iadd, 1), (114, .iload_n 3, 1), (115, .if_icmp .ge 12, 3), (118, .iload_n 2, 1), (119, .aload_n 0, 1), (120, .getfield 109, 3), (123, .iadd, 1), (124, .goto 4, 3), (127, .iload_n 3, 1), (128, .putfield 96, 3), (131, .return_, 1)]
def qR_vertical : mm_M := (⟨"EditorCoreModel", "vertical", "(I)V"⟩, prog_10_method_10_code, mm_cd qR_vertical_t, 5, none, { frames := 1, cells := 0, slots := 0, locals := 38 }, mm_fl fl_R)
theorem qR_vertical_ok : mm_ok qR_vertical := ⟨mm_cd_ok qR_vertical_t (by decide +kernel), mm_fl_ok fl_R fl_R_ok⟩
theorem qR_vertical_k : mm_LkV qR_vertical 1 8 := ⟨⟨wd_724, ⟨by decide +kernel, by decide +kernel, by decide +kernel⟩, wd_9⟩, wd_723, ws_45, ⟨_, _, rfl⟩⟩
def qR_lineStart_t : List (Nat × Instr × Nat) := [(0, .iload_n 1, 1), (1, .istore_n 2, 1), (2, .iload_n 2, 1), (3, .ifCond .le 22, 3), (6, .aload_n 0, 1), (7, .getfield 7, 3), (10, .iload_n 2, 1), (11, .iconst 1, 1), (12, .isub, 1), (13, .iaload, 1), (14, .bipush 10, 2), (16, .if_icmp .eq 9, 3), (19, .iinc 2 (-1), 3), (22, .goto (-20), 3), (25, .iload_n 2, 1), (26, .ireturn, 1)]
def qR_lineStart : mm_M := (⟨"EditorCoreModel", "lineStart", "(I)I"⟩, prog_10_method_8_code, mm_cd qR_lineStart_t, 3, some .int, { frames := 0, cells := 0, slots := 0, locals := 0 }, mm_fl fl_R)
theorem qR_lineStart_ok : mm_ok qR_lineStart := ⟨mm_cd_ok qR_lineStart_t (by decide +kernel), mm_fl_ok fl_R fl_R_ok⟩
theorem qR_lineStart_k : mm_LkV qR_lineStart 1 8 := ⟨⟨wd_728, ⟨by decide +kernel, by decide +kernel, by decide +kernel⟩, wd_9⟩, wd_727, ws_46, ⟨_, _, rfl⟩⟩
def qR_words_t : List (Nat × Instr × Nat) := [(0, .iconst 0, 1), (1, .istore_n 2, 1), (2, .iload_n 2, 1), (3, .aload_n 0, 1), (4, .getfield 23, 3), (7, .if_icmp .ge 177, 3), (10, .iload_n 1, 1), (11, .ifCond .ne 42, 3), (14, .aload_n 0, 1), (15, .getfield 96, 3), (18, .aload_n 0, 1), (19, .getfield 75, 3), (22, .if_icmp .ge 31, 3), (25, .aload_n 0, 1), (26, .getfield 7, 3), (29, .aload_n 0, 1), (30, .getfield 96, 3), (33, .iaload, 1), (34, .invokestatic 92, 3), (37, .ifCond .ne 16, 3), (40, .aload_n 0, 1), (41, .dup, 1), (42, .getfield 96, 3), (45, .iconst 1, 1), (46, .iadd, 1), (47, .putfield 96, 3), (50, .goto (-40), 3), (53, .iload_n 1, 1), (54, .ifCond .ne 42, 3), (57, .aload_n 0, 1), (58, .getfield 96, 3), (61, .aload_n 0, 1), (62, .getfield 75, 3), (65, .if_icmp .ge 31, 3), (68, .aload_n 0, 1), (69, .getfield 7, 3), (72, .aload_n 0, 1), (73, .getfield 96, 3), (76, .iaload, 1), (77, .invokestatic 92, 3), (80, .ifCond .eq 16, 3), (83, .aload_n 0, 1), (84, .dup, 1), (85, .getfield 96, 3), (88, .iconst 1, 1), (89, .iadd, 1), (90, .putfield 96, 3), (93, .goto (-40), 3), (96, .iload_n 1, 1), (97, .ifCond .eq 40, 3), (100, .aload_n 0, 1), (101, .getfield 96, 3), (104, .ifCond .le 33, 3), (107, .aload_n 0, 1), (108, .getfield 7, 3), (111, .aload_n 0, 1), (112, .getfield 96, 3), (115, .iconst 1, 1), (116, .isub, 1), (117, .iaload, 1), (118, .invokestatic 92, 3), (121, .ifCond .ne 16, 3), (124, .aload_n 0, 1), (125, .dup, 1), (126, .getfield 96, 3), (129, .iconst 1, 1), (130, .isub, 1), (131, .putfield 96, 3), (134, .goto (-38), 3), (137, .iload_n 1, 1), (138, .ifCond .eq 40, 3), (141, .aload_n 0, 1), (142, .getfield 96, 3), (145, .ifCond .le 33, 3), (148, .aload_n 0, 1), (149, .getfield 7, 3), (152, .aload_n 0, 1), (153, .getfield 96, 3), (156, .iconst 1, 1), (157, .isub, 1), (158, .iaload, 1), (159, .invokestatic 92, 3), (162, .ifCond .eq 16, 3), (165, .aload_n 0, 1), (166, .dup, 1), (167, .getfield 96, 3), (170, .iconst 1, 1), (171, .isub, 1), (172, .putfield 96, 3), (175, .goto (-38), 3), (178, .iinc 2 1, 3), (181, .goto (-179), 3), (184, .return_, 1)]
def qR_words : mm_M := (⟨"EditorCoreModel", "words", "(Z)V"⟩, prog_10_method_11_code, mm_cd qR_words_t, 3, none, { frames := 1, cells := 0, slots := 0, locals := 38 }, mm_fl fl_R)
theorem qR_words_ok : mm_ok qR_words := ⟨mm_cd_ok qR_words_t (by decide +kernel), mm_fl_ok fl_R fl_R_ok⟩
theorem qR_words_k : mm_LkV qR_words 1 8 := ⟨⟨wd_732, ⟨by decide +kernel, by decide +kernel, by decide +kernel⟩, wd_9⟩, wd_731, ws_47, ⟨_, _, rfl⟩⟩
def qR_argument_t : List (Nat × Instr × Nat) := [(0, .iload_n 1, 1), (1, .iconst 1, 1), (2, .if_icmp .lt 9, 3), (5, .iload_n 1, 1), (6, .bipush 9, 2), (8, .if_icmp .le 5, 3), (11, .iconst (-1), 1), (12, .ireturn, 1), (13, .aload_n 0, 1), (14, .iload_n 1, 1), (15, .putfield 23, 3), (18, .iconst 0, 1), (19, .ireturn, 1)]
def qR_argument : mm_M := (⟨"EditorCoreModel", "argument", "(I)I"⟩, prog_10_method_33_code, mm_cd qR_argument_t, 2, some .int, { frames := 0, cells := 0, slots := 0, locals := 0 }, mm_fl fl_R)
theorem qR_argument_ok : mm_ok qR_argument := ⟨mm_cd_ok qR_argument_t (by decide +kernel), mm_fl_ok fl_R fl_R_ok⟩
theorem qR_argument_k : mm_LkV qR_argument 1 8 := ⟨⟨wd_736, ⟨by decide +kernel, by decide +kernel, by decide +kernel⟩, wd_9⟩, wd_734, wd_735, ⟨_, _, rfl⟩⟩
def qR_press_t : List (Nat × Instr × Nat) := [(0, .iload_n 1, 1), (1, .ifCond .lt 9, 3), (4, .iload_n 1, 1), (5, .bipush 15, 2), (7, .if_icmp .le 5, 3), (10, .iconst (-1), 1), (11, .ireturn, 1), (12, .aload_n 0, 1), (13, .iload_n 1, 1), (14, .invokevirtual 202, 3), (17, .istore_n 2, 1), (18, .iload_n 2, 1), (19, .bipush 21, 2), (21, .if_icmp .ne 11, 3), (24, .aload_n 0, 1), (25, .invokevirtual 211, 3), (28, .istore_n 2, 1), (29, .goto 19, 3), (32, .iload_n 2, 1), (33, .ifCond .lt 15, 3), (36, .iload_n 2, 1), (37, .bipush 21, 2), (39, .if_icmp .ge 9, 3), (42, .aload_n 0, 1), (43, .iload_n 2, 1), (44, .invokevirtual 205, 3), (47, .istore_n 2, 1), (48, .iload_n 2, 1), (49, .ifCond .lt 8, 3), (52, .aload_n 0, 1), (53, .iload_n 1, 1), (54, .invokevirtual 208, 3), (57, .iload_n 2, 1), (58, .ireturn, 1)]
def qR_press : mm_M := (⟨"EditorCoreModel", "press", "(I)I"⟩, prog_10_method_34_code, mm_cd qR_press_t, 3, some .int, { frames := 8, cells := 0, slots := 0, locals := 304 }, mm_fl fl_R)
theorem qR_press_ok : mm_ok qR_press := ⟨mm_cd_ok qR_press_t (by decide +kernel), mm_fl_ok fl_R fl_R_ok⟩
theorem qR_press_k : mm_LkV qR_press 1 8 := ⟨⟨wd_740, ⟨by decide +kernel, by decide +kernel, by decide +kernel⟩, wd_9⟩, wd_738, wd_739, ⟨_, _, rfl⟩⟩
def qR_macro_t : List (Nat × Instr × Nat) := [(0, .iload_n 1, 1), (1, .aload_n 0, 1), (2, .getfield 192, 3), (5, .if_icmp .ne 5, 3), (8, .iconst (-1), 1), (9, .ireturn, 1), (10, .aload_n 0, 1), (11, .iload_n 1, 1), (12, .putfield 192, 3), (15, .iload_n 1, 1), (16, .ifCond .eq 8, 3), (19, .aload_n 0, 1), (20, .iconst 0, 1), (21, .putfield 196, 3), (24, .iload_n 1, 1), (25, .ifCond .eq 7, 3), (28, .iconst 0, 1), (29, .goto 7, 3), (32, .aload_n 0, 1), (33, .getfield 196, 3), (36, .ireturn, 1)]
def qR_macro : mm_M := (⟨"EditorCoreModel", "macro", "(Z)I"⟩, prog_10_method_35_code, mm_cd qR_macro_t, 2, some .int, { frames := 0, cells := 0, slots := 0, locals := 0 }, mm_fl fl_R)
theorem qR_macro_ok : mm_ok qR_macro := ⟨mm_cd_ok qR_macro_t (by decide +kernel), mm_fl_ok fl_R fl_R_ok⟩
theorem qR_macro_k : mm_LkV qR_macro 1 8 := ⟨⟨wd_744, ⟨by decide +kernel, by decide +kernel, by decide +kernel⟩, wd_9⟩, wd_742, wd_743, ⟨_, _, rfl⟩⟩
def qR_marker_t : List (Nat × Instr × Nat) := [(0, .iload_n 1, 1), (1, .ifCond .lt 8, 3), (4, .iload_n 1, 1), (5, .iconst 3, 1), (6, .if_icmp .le 5, 3), (9, .iconst (-1), 1), (10, .ireturn, 1), (11, .aload_n 0, 1), (12, .getfield 29, 3), (15, .iload_n 1, 1), (16, .aload_n 0, 1), (17, .getfield 96, 3), (20, .iastore, 1), (21, .aload_n 0, 1), (22, .getfield 32, 3), (25, .iload_n 1, 1), (26, .iload_n 2, 1), (27, .bastore, 1), (28, .iconst 0, 1), (29, .ireturn, 1)]
def qR_marker : mm_M := (⟨"EditorCoreModel", "marker", "(IZ)I"⟩, prog_10_method_36_code, mm_cd qR_marker_t, 3, some .int, { frames := 0, cells := 0, slots := 0, locals := 0 }, mm_fl fl_R)
theorem qR_marker_ok : mm_ok qR_marker := ⟨mm_cd_ok qR_marker_t (by decide +kernel), mm_fl_ok fl_R fl_R_ok⟩
theorem qR_marker_k : mm_LkV qR_marker 2 8 := ⟨⟨wd_748, ⟨by decide +kernel, by decide +kernel, by decide +kernel⟩, wd_9⟩, wd_746, wd_747, ⟨_, _, rfl⟩⟩
def qR_frame_t : List (Nat × Instr × Nat) := [(0, .iload_n 1, 1), (1, .iconst 4, 1), (2, .if_icmp .lt 20, 3), (5, .iload_n 1, 1), (6, .bipush 20, 2), (8, .if_icmp .gt 14, 3), (11, .iload_n 2, 1), (12, .iconst 2, 1), (13, .if_icmp .lt 9, 3), (16, .iload_n 2, 1), (17, .bipush 6, 2), (19, .if_icmp .le 5, 3), (22, .iconst (-1), 1), (23, .ireturn, 1), (24, .aload_n 0, 1), (25, .iload_n 1, 1), (26, .putfield 69, 3), (29, .aload_n 0, 1), (30, .iload_n 2, 1), (31, .putfield 72, 3), (34, .aload_n 0, 1), (35, .iconst 0, 1), (36, .putfield 214, 3), (39, .iconst 0, 1), (40, .ireturn, 1)]
def qR_frame : mm_M := (⟨"EditorCoreModel", "frame", "(II)I"⟩, prog_10_method_37_code, mm_cd qR_frame_t, 3, some .int, { frames := 0, cells := 0, slots := 0, locals := 0 }, mm_fl fl_R)
theorem qR_frame_ok : mm_ok qR_frame := ⟨mm_cd_ok qR_frame_t (by decide +kernel), mm_fl_ok fl_R fl_R_ok⟩
theorem qR_frame_k : mm_LkV qR_frame 2 8 := ⟨⟨wd_752, ⟨by decide +kernel, by decide +kernel, by decide +kernel⟩, wd_9⟩, wd_750, wd_751, ⟨_, _, rfl⟩⟩
def qR_cell_t : List (Nat × Instr × Nat) := [(0, .iload_n 1, 1), (1, .ifCond .lt 23, 3), (4, .iload_n 1, 1), (5, .aload_n 0, 1), (6, .getfield 72, 3), (9, .if_icmp .ge 15, 3), (12, .iload_n 2, 1), (13, .ifCond .lt 11, 3), (16, .iload_n 2, 1), (17, .aload_n 0, 1), (18, .getfield 69, 3), (21, .if_icmp .lt 5, 3), (24, .iconst (-1), 1), (25, .ireturn, 1), (26, .aload_n 0, 1), (27, .invokevirtual 223, 3), (30, .aload_n 0, 1), (31, .getfield 214, 3), (34, .iload_n 1, 1), (35, .iadd, 1), (36, .istore_n 3, 1), (37, .iconst 0, 1), (38, .istore 4, 2), (40, .iload 4, 2), (42, .aload_n 0, 1), (43, .getfield 75, 3), (46, .if_icmp .ge 73, 3), (49, .aload_n 0, 1), (50, .iload 4, 2), (52, .invokevirtual 106, 3), (55, .istore 5, 2), (57, .iload 4, 2), (59, .iload 5, 2), (61, .isub, 1), (62, .istore 6, 2), (64, .aload_n 0, 1), (65, .getfield 7, 3), (68, .iload 4, 2), (70, .iaload, 1), (71, .bipush 10, 2), (73, .if_icmp .eq 40, 3), (76, .iload 6, 2), (78, .aload_n 0, 1), (79, .getfield 69, 3), (82, .irem, 1), (83, .iload_n 2, 1), (84, .if_icmp .ne 29, 3), (87, .aload_n 0, 1), (88, .iload 5, 2), (90, .invokevirtual 217, 3), (93, .iload 6, 2), (95, .aload_n 0, 1), (96, .getfield 69, 3), (99, .idiv, 1), (100, .iadd, 1), (101, .iload_n 3, 1), (102, .if_icmp .ne 11, 3), (105, .aload_n 0, 1), (106, .getfield 7, 3), (109, .iload 4, 2), (111, .iaload, 1), (112, .ireturn, 1), (113, .iinc 4 1, 3), (116, .goto (-76), 3), (119, .iconst 0, 1), (120, .ireturn, 1)]
def qR_cell : mm_M := (⟨"EditorCoreModel", "cell", "(II)I"⟩, prog_10_method_41_code, mm_cd qR_cell_t, 7, some .int, { frames := 4, cells := 0, slots := 0, locals := 152 }, mm_fl fl_R)
theorem qR_cell_ok : mm_ok qR_cell := ⟨mm_cd_ok qR_cell_t (by decide +kernel), mm_fl_ok fl_R fl_R_ok⟩
theorem qR_cell_k : mm_LkV qR_cell 2 8 := ⟨⟨wd_756, ⟨by decide +kernel, by decide +kernel, by decide +kernel⟩, wd_9⟩, wd_754, wd_755, ⟨_, _, rfl⟩⟩
def qR_show_t : List (Nat × Instr × Nat) := [(0, .aload_n 0, 1), (1, .invokevirtual 220, 3), (4, .istore_n 1, 1), (5, .iload_n 1, 1), (6, .aload_n 0, 1), (7, .getfield 214, 3), (10, .if_icmp .ge 8, 3), (13, .aload_n 0, 1), (14, .iload_n 1, 1), (15, .putfield 214, 3), (18, .iload_n 1, 1), (19, .aload_n 0, 1), (20, .getfield 214, 3), (23, .aload_n 0, 1), (24, .getfield 72, 3), (27, .iadd, 1), (28, .if_icmp .lt 15, 3), (31, .aload_n 0, 1), (32, .iload_n 1, 1), (33, .aload_n 0, 1), (34, .getfield 72, 3), (37, .isub, 1), (38, .iconst 1, 1), (39, .iadd, 1), (40, .putfield 214, 3), (43, .return_, 1)]
def qR_show : mm_M := (⟨"EditorCoreModel", "show", "()V"⟩, prog_10_method_40_code, mm_cd qR_show_t, 2, none, { frames := 3, cells := 0, slots := 0, locals := 114 }, mm_fl fl_R)
theorem qR_show_ok : mm_ok qR_show := ⟨mm_cd_ok qR_show_t (by decide +kernel), mm_fl_ok fl_R fl_R_ok⟩
theorem qR_show_k : mm_LkV qR_show 0 8 := ⟨⟨wd_760, ⟨by decide +kernel, by decide +kernel, by decide +kernel⟩, wd_9⟩, wd_759, ws_48, ⟨_, _, rfl⟩⟩
def qR_pointRow_t : List (Nat × Instr × Nat) := [(0, .aload_n 0, 1), (1, .aload_n 0, 1), (2, .getfield 96, 3), (5, .invokevirtual 106, 3), (8, .istore_n 1, 1), (9, .aload_n 0, 1), (10, .iload_n 1, 1), (11, .invokevirtual 217, 3), (14, .aload_n 0, 1), (15, .getfield 96, 3), (18, .iload_n 1, 1), (19, .isub, 1), (20, .aload_n 0, 1), (21, .getfield 69, 3), (24, .idiv, 1), (25, .iadd, 1), (26, .ireturn, 1)]
def qR_pointRow : mm_M := (⟨"EditorCoreModel", "pointRow", "()I"⟩, prog_10_method_39_code, mm_cd qR_pointRow_t, 2, some .int, { frames := 2, cells := 0, slots := 0, locals := 76 }, mm_fl fl_R)
theorem qR_pointRow_ok : mm_ok qR_pointRow := ⟨mm_cd_ok qR_pointRow_t (by decide +kernel), mm_fl_ok fl_R fl_R_ok⟩
theorem qR_pointRow_k : mm_LkV qR_pointRow 0 8 := ⟨⟨wd_764, ⟨by decide +kernel, by decide +kernel, by decide +kernel⟩, wd_9⟩, wd_763, ws_49, ⟨_, _, rfl⟩⟩
def qR_rowsBefore_t : List (Nat × Instr × Nat) := [(0, .iconst 0, 1), (1, .istore_n 2, 1), (2, .iconst 0, 1), (3, .istore_n 3, 1), (4, .iload_n 3, 1), (5, .iload_n 1, 1), (6, .if_icmp .ge 31, 3), (9, .iload_n 2, 1), (10, .aload_n 0, 1), (11, .iload_n 3, 1), (12, .invokevirtual 112, 3), (15, .iload_n 3, 1), (16, .isub, 1), (17, .aload_n 0, 1), (18, .getfield 69, 3), (21, .idiv, 1), (22, .iconst 1, 1), (23, .iadd, 1), (24, .iadd, 1), (25, .istore_n 2, 1), (26, .aload_n 0, 1), (27, .iload_n 3, 1), (28, .invokevirtual 112, 3), (31, .iconst 1, 1), (32, .iadd, 1), (33, .istore_n 3, 1), (34, .goto (-30), 3), (37, .iload_n 2, 1), (38, .ireturn, 1)]
def qR_rowsBefore : mm_M := (⟨"EditorCoreModel", "rowsBefore", "(I)I"⟩, prog_10_method_38_code, mm_cd qR_rowsBefore_t, 4, some .int, { frames := 1, cells := 0, slots := 0, locals := 38 }, mm_fl fl_R)
theorem qR_rowsBefore_ok : mm_ok qR_rowsBefore := ⟨mm_cd_ok qR_rowsBefore_t (by decide +kernel), mm_fl_ok fl_R fl_R_ok⟩
theorem qR_rowsBefore_k : mm_LkV qR_rowsBefore 1 8 := ⟨⟨wd_768, ⟨by decide +kernel, by decide +kernel, by decide +kernel⟩, wd_9⟩, wd_767, ws_50, ⟨_, _, rfl⟩⟩
def qR_character_t : List (Nat × Instr × Nat) := [(0, .iload_n 1, 1), (1, .ifCond .lt 11, 3), (4, .iload_n 1, 1), (5, .aload_n 0, 1), (6, .getfield 75, 3), (9, .if_icmp .lt 7, 3), (12, .iconst (-1), 1), (13, .goto 9, 3), (16, .aload_n 0, 1), (17, .getfield 7, 3), (20, .iload_n 1, 1), (21, .iaload, 1), (22, .ireturn, 1)]
def qR_character : mm_M := (⟨"EditorCoreModel", "character", "(I)I"⟩, prog_10_method_42_code, mm_cd qR_character_t, 2, some .int, { frames := 0, cells := 0, slots := 0, locals := 0 }, mm_fl fl_R)
theorem qR_character_ok : mm_ok qR_character := ⟨mm_cd_ok qR_character_t (by decide +kernel), mm_fl_ok fl_R fl_R_ok⟩
theorem qR_character_k : mm_LkV qR_character 1 8 := ⟨⟨wd_772, ⟨by decide +kernel, by decide +kernel, by decide +kernel⟩, wd_9⟩, wd_770, wd_771, ⟨_, _, rfl⟩⟩
def qR_markerAt_t : List (Nat × Instr × Nat) := [(0, .iload_n 1, 1), (1, .ifCond .lt 8, 3), (4, .iload_n 1, 1), (5, .iconst 3, 1), (6, .if_icmp .le 7, 3), (9, .iconst (-1), 1), (10, .goto 9, 3), (13, .aload_n 0, 1), (14, .getfield 29, 3), (17, .iload_n 1, 1), (18, .iaload, 1), (19, .ireturn, 1)]
def qR_markerAt : mm_M := (⟨"EditorCoreModel", "markerAt", "(I)I"⟩, prog_10_method_43_code, mm_cd qR_markerAt_t, 2, some .int, { frames := 0, cells := 0, slots := 0, locals := 0 }, mm_fl fl_R)
theorem qR_markerAt_ok : mm_ok qR_markerAt := ⟨mm_cd_ok qR_markerAt_t (by decide +kernel), mm_fl_ok fl_R fl_R_ok⟩
theorem qR_markerAt_k : mm_LkV qR_markerAt 1 8 := ⟨⟨wd_776, ⟨by decide +kernel, by decide +kernel, by decide +kernel⟩, wd_9⟩, wd_774, wd_775, ⟨_, _, rfl⟩⟩
def qR_killed_t : List (Nat × Instr × Nat) := [(0, .iload_n 1, 1), (1, .ifCond .lt 15, 3), (4, .iload_n 1, 1), (5, .aload_n 0, 1), (6, .getfield 115, 3), (9, .if_icmp .ge 7, 3), (12, .iload_n 2, 1), (13, .ifCond .ge 5, 3), (16, .iconst (-1), 1), (17, .ireturn, 1), (18, .iload_n 2, 1), (19, .aload_n 0, 1), (20, .getfield 39, 3), (23, .iload_n 1, 1), (24, .iaload, 1), (25, .if_icmp .ge 17, 3), (28, .aload_n 0, 1), (29, .getfield 36, 3), (32, .iload_n 1, 1), (33, .bipush 100, 2), (35, .imul, 1), (36, .iload_n 2, 1), (37, .iadd, 1), (38, .iaload, 1), (39, .goto 4, 3), (42, .iconst 0, 1), (43, .ireturn, 1)]
def qR_killed : mm_M := (⟨"EditorCoreModel", "killed", "(II)I"⟩, prog_10_method_44_code, mm_cd qR_killed_t, 3, some .int, { frames := 0, cells := 0, slots := 0, locals := 0 }, mm_fl fl_R)
theorem qR_killed_ok : mm_ok qR_killed := ⟨mm_cd_ok qR_killed_t (by decide +kernel), mm_fl_ok fl_R fl_R_ok⟩
theorem qR_killed_k : mm_LkV qR_killed 2 8 := ⟨⟨wd_780, ⟨by decide +kernel, by decide +kernel, by decide +kernel⟩, wd_9⟩, wd_778, wd_779, ⟨_, _, rfl⟩⟩
def qR_info_t : List (Nat × Instr × Nat) := [(0, .iload_n 1, 1), (1, .ifCond .lt 9, 3), (4, .iload_n 1, 1), (5, .bipush 13, 2), (7, .if_icmp .le 5, 3), (10, .iconst (-1), 1), (11, .ireturn, 1), (12, .iload_n 1, 1), (13, .iconst 3, 1), (14, .if_icmp .ge 31, 3), (17, .iload_n 1, 1), (18, .ifCond .ne 10, 3), (21, .aload_n 0, 1), (22, .getfield 75, 3), (25, .goto 19, 3), (28, .iload_n 1, 1), (29, .iconst 1, 1), (30, .if_icmp .ne 10, 3), (33, .aload_n 0, 1), (34, .getfield 96, 3), (37, .goto 7, 3), (40, .aload_n 0, 1), (41, .getfield 19, 3), (44, .ireturn, 1), (45, .iload_n 1, 1), (46, .bipush 6, 2), (48, .if_icmp .ge 32, 3), (51, .iload_n 1, 1), (52, .iconst 3, 1), (53, .if_icmp .ne 10, 3), (56, .aload_n 0, 1), (57, .getfield 115, 3), (60, .goto 19, 3), (63, .iload_n 1, 1), (64, .iconst 4, 1), (65, .if_icmp .ne 10, 3), (68, .aload_n 0, 1), (69, .getfield 85, 3), (72, .goto 7, 3), (75, .aload_n 0, 1), (76, .getfield 189, 3), (79, .ireturn, 1), (80, .iload_n 1, 1), (81, .bipush 9, 2), (83, .if_icmp .ge 42, 3), (86, .iload_n 1, 1), (87, .bipush 6, 2), (89, .if_icmp .ne 10, 3), (92, .aload_n 0, 1), (93, .getfield 196, 3), (96, .goto 28, 3), (99, .iload_n 1, 1), (100, .bipush 7, 2), (102, .if_icmp .ne 18, 3), (105, .aload_n 0, 1), (106, .getfield 192, 3), (109, .ifCond .eq 7, 3), (112, .iconst 1, 1), (113, .goto 11, 3), (116, .iconst 0, 1), (117, .goto 7, 3), (120, .aload_n 0, 1), (121, .getfield 176, 3), (124, .ireturn, 1), (125, .aload_n 0, 1), (126, .aload_n 0, 1), (127, .getfield 75, 3), (130, .invokevirtual 106, 3), (133, .istore_n 2, 1), (134, .iload_n 1, 1), (135, .bipush 9, 2), (137, .if_icmp .ne 23, 3), (140, .aload_n 0, 1), (141, .iload_n 2, 1), (142, .invokevirtual 217, 3), (145, .aload_n 0, 1), (146, .getfield 75, 3), (149, .iload_n 2, 1), (150, .isub, 1), (151, .aload_n 0, 1), (152, .getfield 69, 3), (155, .idiv, 1), (156, .iadd, 1), (157, .iconst 1, 1), (158, .iadd, 1), (159, .ireturn, 1), (160, .iload_n 1, 1), (161, .bipush 10, 2), (163, .if_icmp .ne 7, 3), (166, .aload_n 0, 1), (167, .invokevirtual 223, 3), (170, .iload_n 1, 1), (171, .bipush 12, 2), (173, .if_icmp .ge 21, 3), (176, .iload_n 1, 1), (177, .bipush 10, 2), (179, .if_icmp .ne 10, 3), (182, .aload_n 0, 1), (183, .getfield 214, 3), (186, .goto 7, 3), (189, .aload_n 0, 1), (190, .invokevirtual 220, 3), (193, .ireturn, 1), (194, .iload_n 1, 1), (195, .bipush 12, 2), (197, .if_icmp .ne 10, 3), (200, .aload_n 0, 1), (201, .getfield 23, 3), (204, .goto 7, 3), (207, .aload_n 0, 1), (208, .getfield 26, 3), (211, .ireturn, 1)]
def qR_info : mm_M := (⟨"EditorCoreModel", "info", "(I)I"⟩, prog_10_method_45_code, mm_cd qR_info_t, 3, some .int, { frames := 4, cells := 0, slots := 0, locals := 152 }, mm_fl fl_R)
theorem qR_info_ok : mm_ok qR_info := ⟨mm_cd_ok qR_info_t (by decide +kernel), mm_fl_ok fl_R fl_R_ok⟩
theorem qR_info_k : mm_LkV qR_info 1 8 := ⟨⟨wd_784, ⟨by decide +kernel, by decide +kernel, by decide +kernel⟩, wd_9⟩, wd_782, wd_783, ⟨_, _, rfl⟩⟩
end
section
/-! the fixed references of the memory; numbers of cells: 86 in all, the class has 0 .. 68, the reference 69 .. 85 -/
def mm_lkL : List (Nat × Nat × Nat) := [(0, 6, 67), (0, 4, 63), (0, 2, 16), (0, 3, 60), (0, 1, 6), (0, 0, 1), (0, 5, 66), (1, 0, 2), (1, 2, 5), (1, 1, 4), (2, 0, 3), (6, 0, 7), (8, 0, 9), (10, 0, 11), (12, 0, 13), (14, 0, 15), (16, 0, 17), (16, 1, 18), (16, 2, 19), (20, 0, 21), (22, 0, 23), (24, 0, 25), (26, 0, 27), (28, 0, 29), (30, 0, 31), (32, 0, 33), (34, 0, 35), (36, 0, 37), (38, 0, 39), (40, 0, 41), (42, 0, 43), (44, 0, 45), (46, 0, 47), (48, 0, 49), (50, 0, 51), (52, 0, 53), (54, 0, 55), (56, 0, 57), (58, 0, 59), (60, 0, 61), (60, 1, 62), (63, 0, 64), (63, 1, 65), (67, 0, 68), (69, 18, 77), (69, 19, 78), (69, 25, 82), (69, 26, 83), (69, 30, 85), (69, 11, 74), (69, 2, 72), (69, 12, 75), (69, 13, 76), (69, 10, 73), (69, 1, 71), (69, 28, 84), (69, 20, 79), (69, 22, 81), (69, 21, 80), (69, 0, 70)]
def mm_GI (G : mm_G) : Prop := (∀ x, mm_SH x = .inl 2 → G x 0 = some (x + 1)) ∧ (∀ i, i < 20 → G 19 i = some (20 + 2 * i)) ∧ ∀ q ∈ mm_lkL, G q.1 q.2.1 = some q.2.2
theorem mm_gi {G : mm_G} (hG : mm_GI G) (a k b : Nat) (h : (a, k, b) ∈ mm_lkL) : G a k = some b := hG.2.2 (a, k, b) h
theorem mm_lt {x ci : Nat} (h : mm_SH x = .inl (ci + 1)) : x < 86 := by
  rcases Nat.lt_or_ge x 86 with q | q
  · exact q
  · unfold mm_SH at h
    rw [List.getD_eq_getElem?_getD, List.getElem?_eq_none (by exact q)] at h
    cases h
theorem mm_let : ∀ x, x < 86 → mm_SH x = .inl 2 → mm_SH (x + 1) = .inr (0, 100) ∧ x + 1 < 86 := by decide
theorem mm_l1 {x : Nat} (h : mm_SH x = .inl 2) : x < 86 := mm_lt h
theorem mm_l2 {x : Nat} (h : mm_SH x = .inl 2) : mm_SH (x + 1) = .inr (0, 100) := (mm_let x (mm_lt h) h).1
theorem mm_l3 {x : Nat} (h : mm_SH x = .inl 2) : x + 1 < 86 := (mm_let x (mm_lt h) h).2
/-- up from p while q holds, at most k places -/
def ed_up (q : Nat → Bool) : Nat → Nat → Nat
  | 0, p => p
  | k + 1, p => if q p = true then ed_up q k (p + 1) else p
/-- down from p while q holds of the place before -/
def ed_dn (q : Nat → Bool) : Nat → Nat
  | 0 => 0
  | p + 1 => if q p = true then ed_dn q p else p + 1
theorem ed_up_le (q : Nat → Bool) : ∀ k p, p ≤ ed_up q k p ∧ ed_up q k p ≤ p + k
  | 0, p => ⟨Nat.le_refl p, Nat.le_refl p⟩
  | k + 1, p => by
    unfold ed_up
    split
    · have := ed_up_le q k (p + 1)
      omega
    · omega
theorem ed_dn_le (q : Nat → Bool) : ∀ p, ed_dn q p ≤ p
  | 0 => Nat.le_refl 0
  | p + 1 => by
    unfold ed_dn
    split
    · have := ed_dn_le q p
      omega
    · omega
def ed_nl (f : Nat → Int32) (i : Nat) : Bool := decide (f i ≠ nI 10)
def ed_ltc (c : Int32) : Bool := decide (nI 97 ≤ c ∧ c ≤ nI 122)
def ed_lt (f : Nat → Int32) (i : Nat) : Bool := ed_ltc (f i)
def ed_nlt (f : Nat → Int32) (i : Nat) : Bool := !ed_ltc (f i)
def ed_b (b : Bool) : Nat := if b = true then 1 else 0
theorem ed_up_y {q : Nat → Bool} {k p : Nat} (h : q p = true) : ed_up q (k + 1) p = ed_up q k (p + 1) := by
  rw [ed_up, if_pos h]
theorem ed_up_n {q : Nat → Bool} {k p : Nat} (h : q p = false) : ed_up q k p = p := by
  cases k with
  | zero => rfl
  | succ k => rw [ed_up, if_neg (by rw [h]; decide)]
theorem ed_dn_y {q : Nat → Bool} {p : Nat} (h : q p = true) : ed_dn q (p + 1) = ed_dn q p := by
  rw [ed_dn, if_pos h]
theorem ed_dn_n {q : Nat → Bool} {p : Nat} (h : q p = false) : ed_dn q (p + 1) = p + 1 := by
  rw [ed_dn, if_neg (by rw [h]; decide)]
theorem ed_nl_y {f : Nat → Int32} {i : Nat} (h : ¬ f i = nI 10) : ed_nl f i = true := by simp [ed_nl, h]
theorem ed_nl_n {f : Nat → Int32} {i : Nat} (h : f i = nI 10) : ed_nl f i = false := by simp [ed_nl, h]
/-- a line's end, its beginning -/
def ed_le (f : Nat → Int32) (n p : Nat) : Nat := ed_up (ed_nl f) (n - p) p
def ed_lb (f : Nat → Int32) (p : Nat) : Nat := ed_dn (ed_nl f) p
theorem ed_le_le {f : Nat → Int32} {n p : Nat} (h : p ≤ n) : p ≤ ed_le f n p ∧ ed_le f n p ≤ n := by
  have := ed_up_le (ed_nl f) (n - p) p
  unfold ed_le
  omega
theorem ed_lb_le {f : Nat → Int32} {p : Nat} : ed_lb f p ≤ p := ed_dn_le _ p
/-- k lines down, up -/
def ed_below (f : Nat → Int32) (n : Nat) : Nat → Nat → Nat
  | 0, b => b
  | k + 1, b => ed_below f n k (if ed_le f n b < n then ed_le f n b + 1 else b)
def ed_above (f : Nat → Int32) : Nat → Nat → Nat
  | 0, b => b
  | k + 1, b => if 0 < b then ed_above f k (ed_lb f (b - 1)) else b
/-- k words on, back -/
def ed_fw (f : Nat → Int32) (n : Nat) : Nat → Nat → Nat
  | 0, p => p
  | k + 1, p => ed_fw f n k (ed_up (ed_lt f) (n - ed_up (ed_nlt f) (n - p) p) (ed_up (ed_nlt f) (n - p) p))
def ed_bw (f : Nat → Int32) : Nat → Nat → Nat
  | 0, p => p
  | k + 1, p => ed_bw f k (ed_dn (ed_lt f) (ed_dn (ed_nlt f) p))
/-- where an edit moves a place -/
def ed_mv (m fb p d s : Nat) : Nat := if m < p ∨ (m = p ∧ (0 < d ∨ fb = 0)) then m else if p < m ∧ m < p + d then p else m + s - d
def ed_pm (o fo : Int32) (p d s : Nat) : Int32 := if o = -2 then -2 else nI (ed_mv o.toNatClampNeg fo.toNatClampNeg p d s)
theorem ed_m2 {p : Nat} (hp : p < 2 ^ 31) : (-2 : Int32) < nI p := by
  rw [Int32.lt_iff_toInt_lt, nI_toInt hp]
  have : (-2 : Int32).toInt = -2 := by decide
  omega
theorem ed_m2n {p : Nat} (hp : p < 2 ^ 31) : ¬ nI p = -2 := fun h => by
  have := ed_m2 hp
  rw [h] at this
  exact absurd this (by decide)
theorem ed_gr {a s d : Nat} (h : d ≤ a) : nI a + (nI s - nI d) = nI (a - d + s) := by
  have e : nI a = nI (a - d) + nI d := by rw [nI_add]; congr 1; omega
  rw [e, Int32.add_assoc, Int32.add_comm (nI d), Int32.sub_add_cancel, nI_add]
end
section
section MMC
variable {E : mm_E} {M : mm_M} {pc n cs sl : Nat} {lv : List (Option Value)} {st : List Value} {J : mm_J} {G : mm_G} {F : mm_F}
theorem mm_isV0 {M2 : mm_M} {idx ci a n' : Nat} {r : Option Value} {J' : mm_J} {G' : mm_G} (hl : Cond.methodLink (mm_y M).cls idx (mm_y M2) ∈ lw_t2) (hk : mm_LkV M2 0 ci) (hR : mm_Rm M M2) (h : mm_Ret E M2 (.ref a :: []) n J G r n' J' G') (hs : mm_SH a = .inl ci) (ha : a < n) (hst : ((st.map (mm_v E)).map fun v => v.category).sum ≤ 8) (h1 : cs + (mm_R M2).cells ≤ (mm_R M).cells) (h2 : sl + (mm_R M2).slots ≤ (mm_R M).slots) (hc : mm_d M pc = some (.invokevirtual idx, 3)) (hle : n ≤ n') (k : mm_Go E M (pc + 3) lv (r.toList ++ st) n' J' G' (cs + (mm_R M2).cells) (sl + (mm_R M2).slots) F) : mm_Go E M pc lv (.ref a :: st) n J G cs sl F := mm_isV [] hl hk hR h hs ha rfl hst h1 h2 hc hle k
theorem mm_mV0 {M2 : mm_M} {idx ci a : Nat} {Post2 : mm_T} (hl : Cond.methodLink (mm_y M).cls idx (mm_y M2) ∈ lw_t2) (hk : mm_LkV M2 0 ci) (hR : mm_Rm M M2) (h : mm_Met E M2 (.ref a :: []) n J G Post2) (hs : mm_SH a = .inl ci) (ha : a < n) (hst : ((st.map (mm_v E)).map fun v => v.category).sum ≤ 8) (h1 : cs + (mm_R M2).cells ≤ (mm_R M).cells) (h2 : sl + (mm_R M2).slots ≤ (mm_R M).slots) (hc : mm_d M pc = some (.invokevirtual idx, 3)) (k : ∀ r n' J' G', Post2 r n' J' G' → n ≤ n' ∧ mm_Go E M (pc + 3) lv (r.toList ++ st) n' J' G' (cs + (mm_R M2).cells) (sl + (mm_R M2).slots) F) : mm_Go E M pc lv (.ref a :: st) n J G cs sl F := mm_callV [] hl hk hR h hs ha rfl hst h1 h2 hc k
theorem mm_isS0 {M2 : mm_M} {idx n' : Nat} {r : Option Value} {J' : mm_J} {G' : mm_G} (hl : Cond.methodLink (mm_y M).cls idx (mm_y M2) ∈ lw_t2) (hk : mm_LkS M2 0) (hR : mm_Rm M M2) (h : mm_Ret E M2 [] n J G r n' J' G') (hst : ((st.map (mm_v E)).map fun v => v.category).sum ≤ 8) (h1 : cs + (mm_R M2).cells ≤ (mm_R M).cells) (h2 : sl + (mm_R M2).slots ≤ (mm_R M).slots) (hc : mm_d M pc = some (.invokestatic idx, 3)) (hle : n ≤ n') (k : mm_Go E M (pc + 3) lv (r.toList ++ st) n' J' G' (cs + (mm_R M2).cells) (sl + (mm_R M2).slots) F) : mm_Go E M pc lv (st) n J G cs sl F := mm_isS [] hl hk hR h rfl hst h1 h2 hc hle k
theorem mm_isV1 {M2 : mm_M} {idx ci a n' : Nat} {v1 : Value} {r : Option Value} {J' : mm_J} {G' : mm_G} (hl : Cond.methodLink (mm_y M).cls idx (mm_y M2) ∈ lw_t2) (hk : mm_LkV M2 1 ci) (hR : mm_Rm M M2) (h : mm_Ret E M2 (.ref a :: [v1]) n J G r n' J' G') (hs : mm_SH a = .inl ci) (ha : a < n) (hst : ((st.map (mm_v E)).map fun v => v.category).sum ≤ 8) (h1 : cs + (mm_R M2).cells ≤ (mm_R M).cells) (h2 : sl + (mm_R M2).slots ≤ (mm_R M).slots) (hc : mm_d M pc = some (.invokevirtual idx, 3)) (hle : n ≤ n') (k : mm_Go E M (pc + 3) lv (r.toList ++ st) n' J' G' (cs + (mm_R M2).cells) (sl + (mm_R M2).slots) F) : mm_Go E M pc lv (v1 :: .ref a :: st) n J G cs sl F := mm_isV [v1] hl hk hR h hs ha rfl hst h1 h2 hc hle k
theorem mm_mV1 {M2 : mm_M} {idx ci a : Nat} {v1 : Value} {Post2 : mm_T} (hl : Cond.methodLink (mm_y M).cls idx (mm_y M2) ∈ lw_t2) (hk : mm_LkV M2 1 ci) (hR : mm_Rm M M2) (h : mm_Met E M2 (.ref a :: [v1]) n J G Post2) (hs : mm_SH a = .inl ci) (ha : a < n) (hst : ((st.map (mm_v E)).map fun v => v.category).sum ≤ 8) (h1 : cs + (mm_R M2).cells ≤ (mm_R M).cells) (h2 : sl + (mm_R M2).slots ≤ (mm_R M).slots) (hc : mm_d M pc = some (.invokevirtual idx, 3)) (k : ∀ r n' J' G', Post2 r n' J' G' → n ≤ n' ∧ mm_Go E M (pc + 3) lv (r.toList ++ st) n' J' G' (cs + (mm_R M2).cells) (sl + (mm_R M2).slots) F) : mm_Go E M pc lv (v1 :: .ref a :: st) n J G cs sl F := mm_callV [v1] hl hk hR h hs ha rfl hst h1 h2 hc k
theorem mm_isS1 {M2 : mm_M} {idx n' : Nat} {v1 : Value} {r : Option Value} {J' : mm_J} {G' : mm_G} (hl : Cond.methodLink (mm_y M).cls idx (mm_y M2) ∈ lw_t2) (hk : mm_LkS M2 1) (hR : mm_Rm M M2) (h : mm_Ret E M2 [v1] n J G r n' J' G') (hst : ((st.map (mm_v E)).map fun v => v.category).sum ≤ 8) (h1 : cs + (mm_R M2).cells ≤ (mm_R M).cells) (h2 : sl + (mm_R M2).slots ≤ (mm_R M).slots) (hc : mm_d M pc = some (.invokestatic idx, 3)) (hle : n ≤ n') (k : mm_Go E M (pc + 3) lv (r.toList ++ st) n' J' G' (cs + (mm_R M2).cells) (sl + (mm_R M2).slots) F) : mm_Go E M pc lv (v1 :: st) n J G cs sl F := mm_isS [v1] hl hk hR h rfl hst h1 h2 hc hle k
theorem mm_isV2 {M2 : mm_M} {idx ci a n' : Nat} {v1 v2 : Value} {r : Option Value} {J' : mm_J} {G' : mm_G} (hl : Cond.methodLink (mm_y M).cls idx (mm_y M2) ∈ lw_t2) (hk : mm_LkV M2 2 ci) (hR : mm_Rm M M2) (h : mm_Ret E M2 (.ref a :: [v1, v2]) n J G r n' J' G') (hs : mm_SH a = .inl ci) (ha : a < n) (hst : ((st.map (mm_v E)).map fun v => v.category).sum ≤ 8) (h1 : cs + (mm_R M2).cells ≤ (mm_R M).cells) (h2 : sl + (mm_R M2).slots ≤ (mm_R M).slots) (hc : mm_d M pc = some (.invokevirtual idx, 3)) (hle : n ≤ n') (k : mm_Go E M (pc + 3) lv (r.toList ++ st) n' J' G' (cs + (mm_R M2).cells) (sl + (mm_R M2).slots) F) : mm_Go E M pc lv (v2 :: v1 :: .ref a :: st) n J G cs sl F := mm_isV [v1, v2] hl hk hR h hs ha rfl hst h1 h2 hc hle k
theorem mm_mV2 {M2 : mm_M} {idx ci a : Nat} {v1 v2 : Value} {Post2 : mm_T} (hl : Cond.methodLink (mm_y M).cls idx (mm_y M2) ∈ lw_t2) (hk : mm_LkV M2 2 ci) (hR : mm_Rm M M2) (h : mm_Met E M2 (.ref a :: [v1, v2]) n J G Post2) (hs : mm_SH a = .inl ci) (ha : a < n) (hst : ((st.map (mm_v E)).map fun v => v.category).sum ≤ 8) (h1 : cs + (mm_R M2).cells ≤ (mm_R M).cells) (h2 : sl + (mm_R M2).slots ≤ (mm_R M).slots) (hc : mm_d M pc = some (.invokevirtual idx, 3)) (k : ∀ r n' J' G', Post2 r n' J' G' → n ≤ n' ∧ mm_Go E M (pc + 3) lv (r.toList ++ st) n' J' G' (cs + (mm_R M2).cells) (sl + (mm_R M2).slots) F) : mm_Go E M pc lv (v2 :: v1 :: .ref a :: st) n J G cs sl F := mm_callV [v1, v2] hl hk hR h hs ha rfl hst h1 h2 hc k
theorem mm_isS2 {M2 : mm_M} {idx n' : Nat} {v1 v2 : Value} {r : Option Value} {J' : mm_J} {G' : mm_G} (hl : Cond.methodLink (mm_y M).cls idx (mm_y M2) ∈ lw_t2) (hk : mm_LkS M2 2) (hR : mm_Rm M M2) (h : mm_Ret E M2 [v1, v2] n J G r n' J' G') (hst : ((st.map (mm_v E)).map fun v => v.category).sum ≤ 8) (h1 : cs + (mm_R M2).cells ≤ (mm_R M).cells) (h2 : sl + (mm_R M2).slots ≤ (mm_R M).slots) (hc : mm_d M pc = some (.invokestatic idx, 3)) (hle : n ≤ n') (k : mm_Go E M (pc + 3) lv (r.toList ++ st) n' J' G' (cs + (mm_R M2).cells) (sl + (mm_R M2).slots) F) : mm_Go E M pc lv (v2 :: v1 :: st) n J G cs sl F := mm_isS [v1, v2] hl hk hR h rfl hst h1 h2 hc hle k
theorem mm_isV3 {M2 : mm_M} {idx ci a n' : Nat} {v1 v2 v3 : Value} {r : Option Value} {J' : mm_J} {G' : mm_G} (hl : Cond.methodLink (mm_y M).cls idx (mm_y M2) ∈ lw_t2) (hk : mm_LkV M2 3 ci) (hR : mm_Rm M M2) (h : mm_Ret E M2 (.ref a :: [v1, v2, v3]) n J G r n' J' G') (hs : mm_SH a = .inl ci) (ha : a < n) (hst : ((st.map (mm_v E)).map fun v => v.category).sum ≤ 8) (h1 : cs + (mm_R M2).cells ≤ (mm_R M).cells) (h2 : sl + (mm_R M2).slots ≤ (mm_R M).slots) (hc : mm_d M pc = some (.invokevirtual idx, 3)) (hle : n ≤ n') (k : mm_Go E M (pc + 3) lv (r.toList ++ st) n' J' G' (cs + (mm_R M2).cells) (sl + (mm_R M2).slots) F) : mm_Go E M pc lv (v3 :: v2 :: v1 :: .ref a :: st) n J G cs sl F := mm_isV [v1, v2, v3] hl hk hR h hs ha rfl hst h1 h2 hc hle k
theorem mm_mV3 {M2 : mm_M} {idx ci a : Nat} {v1 v2 v3 : Value} {Post2 : mm_T} (hl : Cond.methodLink (mm_y M).cls idx (mm_y M2) ∈ lw_t2) (hk : mm_LkV M2 3 ci) (hR : mm_Rm M M2) (h : mm_Met E M2 (.ref a :: [v1, v2, v3]) n J G Post2) (hs : mm_SH a = .inl ci) (ha : a < n) (hst : ((st.map (mm_v E)).map fun v => v.category).sum ≤ 8) (h1 : cs + (mm_R M2).cells ≤ (mm_R M).cells) (h2 : sl + (mm_R M2).slots ≤ (mm_R M).slots) (hc : mm_d M pc = some (.invokevirtual idx, 3)) (k : ∀ r n' J' G', Post2 r n' J' G' → n ≤ n' ∧ mm_Go E M (pc + 3) lv (r.toList ++ st) n' J' G' (cs + (mm_R M2).cells) (sl + (mm_R M2).slots) F) : mm_Go E M pc lv (v3 :: v2 :: v1 :: .ref a :: st) n J G cs sl F := mm_callV [v1, v2, v3] hl hk hR h hs ha rfl hst h1 h2 hc k
theorem mm_isS3 {M2 : mm_M} {idx n' : Nat} {v1 v2 v3 : Value} {r : Option Value} {J' : mm_J} {G' : mm_G} (hl : Cond.methodLink (mm_y M).cls idx (mm_y M2) ∈ lw_t2) (hk : mm_LkS M2 3) (hR : mm_Rm M M2) (h : mm_Ret E M2 [v1, v2, v3] n J G r n' J' G') (hst : ((st.map (mm_v E)).map fun v => v.category).sum ≤ 8) (h1 : cs + (mm_R M2).cells ≤ (mm_R M).cells) (h2 : sl + (mm_R M2).slots ≤ (mm_R M).slots) (hc : mm_d M pc = some (.invokestatic idx, 3)) (hle : n ≤ n') (k : mm_Go E M (pc + 3) lv (r.toList ++ st) n' J' G' (cs + (mm_R M2).cells) (sl + (mm_R M2).slots) F) : mm_Go E M pc lv (v3 :: v2 :: v1 :: st) n J G cs sl F := mm_isS [v1, v2, v3] hl hk hR h rfl hst h1 h2 hc hle k
theorem mm_isV4 {M2 : mm_M} {idx ci a n' : Nat} {v1 v2 v3 v4 : Value} {r : Option Value} {J' : mm_J} {G' : mm_G} (hl : Cond.methodLink (mm_y M).cls idx (mm_y M2) ∈ lw_t2) (hk : mm_LkV M2 4 ci) (hR : mm_Rm M M2) (h : mm_Ret E M2 (.ref a :: [v1, v2, v3, v4]) n J G r n' J' G') (hs : mm_SH a = .inl ci) (ha : a < n) (hst : ((st.map (mm_v E)).map fun v => v.category).sum ≤ 8) (h1 : cs + (mm_R M2).cells ≤ (mm_R M).cells) (h2 : sl + (mm_R M2).slots ≤ (mm_R M).slots) (hc : mm_d M pc = some (.invokevirtual idx, 3)) (hle : n ≤ n') (k : mm_Go E M (pc + 3) lv (r.toList ++ st) n' J' G' (cs + (mm_R M2).cells) (sl + (mm_R M2).slots) F) : mm_Go E M pc lv (v4 :: v3 :: v2 :: v1 :: .ref a :: st) n J G cs sl F := mm_isV [v1, v2, v3, v4] hl hk hR h hs ha rfl hst h1 h2 hc hle k
theorem mm_mV4 {M2 : mm_M} {idx ci a : Nat} {v1 v2 v3 v4 : Value} {Post2 : mm_T} (hl : Cond.methodLink (mm_y M).cls idx (mm_y M2) ∈ lw_t2) (hk : mm_LkV M2 4 ci) (hR : mm_Rm M M2) (h : mm_Met E M2 (.ref a :: [v1, v2, v3, v4]) n J G Post2) (hs : mm_SH a = .inl ci) (ha : a < n) (hst : ((st.map (mm_v E)).map fun v => v.category).sum ≤ 8) (h1 : cs + (mm_R M2).cells ≤ (mm_R M).cells) (h2 : sl + (mm_R M2).slots ≤ (mm_R M).slots) (hc : mm_d M pc = some (.invokevirtual idx, 3)) (k : ∀ r n' J' G', Post2 r n' J' G' → n ≤ n' ∧ mm_Go E M (pc + 3) lv (r.toList ++ st) n' J' G' (cs + (mm_R M2).cells) (sl + (mm_R M2).slots) F) : mm_Go E M pc lv (v4 :: v3 :: v2 :: v1 :: .ref a :: st) n J G cs sl F := mm_callV [v1, v2, v3, v4] hl hk hR h hs ha rfl hst h1 h2 hc k
theorem mm_isS4 {M2 : mm_M} {idx n' : Nat} {v1 v2 v3 v4 : Value} {r : Option Value} {J' : mm_J} {G' : mm_G} (hl : Cond.methodLink (mm_y M).cls idx (mm_y M2) ∈ lw_t2) (hk : mm_LkS M2 4) (hR : mm_Rm M M2) (h : mm_Ret E M2 [v1, v2, v3, v4] n J G r n' J' G') (hst : ((st.map (mm_v E)).map fun v => v.category).sum ≤ 8) (h1 : cs + (mm_R M2).cells ≤ (mm_R M).cells) (h2 : sl + (mm_R M2).slots ≤ (mm_R M).slots) (hc : mm_d M pc = some (.invokestatic idx, 3)) (hle : n ≤ n') (k : mm_Go E M (pc + 3) lv (r.toList ++ st) n' J' G' (cs + (mm_R M2).cells) (sl + (mm_R M2).slots) F) : mm_Go E M pc lv (v4 :: v3 :: v2 :: v1 :: st) n J G cs sl F := mm_isS [v1, v2, v3, v4] hl hk hR h rfl hst h1 h2 hc hle k
theorem mm_isV5 {M2 : mm_M} {idx ci a n' : Nat} {v1 v2 v3 v4 v5 : Value} {r : Option Value} {J' : mm_J} {G' : mm_G} (hl : Cond.methodLink (mm_y M).cls idx (mm_y M2) ∈ lw_t2) (hk : mm_LkV M2 5 ci) (hR : mm_Rm M M2) (h : mm_Ret E M2 (.ref a :: [v1, v2, v3, v4, v5]) n J G r n' J' G') (hs : mm_SH a = .inl ci) (ha : a < n) (hst : ((st.map (mm_v E)).map fun v => v.category).sum ≤ 8) (h1 : cs + (mm_R M2).cells ≤ (mm_R M).cells) (h2 : sl + (mm_R M2).slots ≤ (mm_R M).slots) (hc : mm_d M pc = some (.invokevirtual idx, 3)) (hle : n ≤ n') (k : mm_Go E M (pc + 3) lv (r.toList ++ st) n' J' G' (cs + (mm_R M2).cells) (sl + (mm_R M2).slots) F) : mm_Go E M pc lv (v5 :: v4 :: v3 :: v2 :: v1 :: .ref a :: st) n J G cs sl F := mm_isV [v1, v2, v3, v4, v5] hl hk hR h hs ha rfl hst h1 h2 hc hle k
theorem mm_mV5 {M2 : mm_M} {idx ci a : Nat} {v1 v2 v3 v4 v5 : Value} {Post2 : mm_T} (hl : Cond.methodLink (mm_y M).cls idx (mm_y M2) ∈ lw_t2) (hk : mm_LkV M2 5 ci) (hR : mm_Rm M M2) (h : mm_Met E M2 (.ref a :: [v1, v2, v3, v4, v5]) n J G Post2) (hs : mm_SH a = .inl ci) (ha : a < n) (hst : ((st.map (mm_v E)).map fun v => v.category).sum ≤ 8) (h1 : cs + (mm_R M2).cells ≤ (mm_R M).cells) (h2 : sl + (mm_R M2).slots ≤ (mm_R M).slots) (hc : mm_d M pc = some (.invokevirtual idx, 3)) (k : ∀ r n' J' G', Post2 r n' J' G' → n ≤ n' ∧ mm_Go E M (pc + 3) lv (r.toList ++ st) n' J' G' (cs + (mm_R M2).cells) (sl + (mm_R M2).slots) F) : mm_Go E M pc lv (v5 :: v4 :: v3 :: v2 :: v1 :: .ref a :: st) n J G cs sl F := mm_callV [v1, v2, v3, v4, v5] hl hk hR h hs ha rfl hst h1 h2 hc k
theorem mm_isS5 {M2 : mm_M} {idx n' : Nat} {v1 v2 v3 v4 v5 : Value} {r : Option Value} {J' : mm_J} {G' : mm_G} (hl : Cond.methodLink (mm_y M).cls idx (mm_y M2) ∈ lw_t2) (hk : mm_LkS M2 5) (hR : mm_Rm M M2) (h : mm_Ret E M2 [v1, v2, v3, v4, v5] n J G r n' J' G') (hst : ((st.map (mm_v E)).map fun v => v.category).sum ≤ 8) (h1 : cs + (mm_R M2).cells ≤ (mm_R M).cells) (h2 : sl + (mm_R M2).slots ≤ (mm_R M).slots) (hc : mm_d M pc = some (.invokestatic idx, 3)) (hle : n ≤ n') (k : mm_Go E M (pc + 3) lv (r.toList ++ st) n' J' G' (cs + (mm_R M2).cells) (sl + (mm_R M2).slots) F) : mm_Go E M pc lv (v5 :: v4 :: v3 :: v2 :: v1 :: st) n J G cs sl F := mm_isS [v1, v2, v3, v4, v5] hl hk hR h rfl hst h1 h2 hc hle k
theorem mm_isI0 {M2 : mm_M} {idx a n' : Nat} {r : Option Value} {J' : mm_J} {G' : mm_G} (hl : Cond.methodLink (mm_y M).cls idx (mm_y M2) ∈ lw_t2) (hk : mm_LkI M2 0) (hR : mm_Rm M M2) (h : mm_Ret E M2 (.ref a :: []) n J G r n' J' G') (hst : ((st.map (mm_v E)).map fun v => v.category).sum ≤ 8) (h1 : cs + (mm_R M2).cells ≤ (mm_R M).cells) (h2 : sl + (mm_R M2).slots ≤ (mm_R M).slots) (hc : mm_d M pc = some (.invokespecial idx, 3)) (hle : n ≤ n') (k : mm_Go E M (pc + 3) lv (r.toList ++ st) n' J' G' (cs + (mm_R M2).cells) (sl + (mm_R M2).slots) F) : mm_Go E M pc lv (.ref a :: st) n J G cs sl F := mm_isI [] hl hk hR h rfl hst h1 h2 hc hle k
theorem mm_isN1 {M2 : mm_M} {idx n' : Nat} {host : String} {v1 : Value} {r : Option Value} {J' : mm_J} {G' : mm_G} (hl : ∀ s, mm_X s → va_Nw (.methodLinkNest (mm_y M).cls idx (mm_y M2) host) s) (hk : mm_LkS M2 1) (hR : mm_Rm M M2) (h : mm_Ret E M2 [v1] n J G r n' J' G') (hst : ((st.map (mm_v E)).map fun v => v.category).sum ≤ 8) (h1 : cs + (mm_R M2).cells ≤ (mm_R M).cells) (h2 : sl + (mm_R M2).slots ≤ (mm_R M).slots) (hc : mm_d M pc = some (.invokestatic idx, 3)) (hle : n ≤ n') (k : mm_Go E M (pc + 3) lv (r.toList ++ st) n' J' G' (cs + (mm_R M2).cells) (sl + (mm_R M2).slots) F) : mm_Go E M pc lv (v1 :: st) n J G cs sl F := mm_callN [v1] hl hk hR h rfl hst h1 h2 hc (fun _ _ _ _ q => by obtain ⟨rfl, rfl, rfl, rfl⟩ := q; exact ⟨hle, k⟩)
theorem mm_minN {idx a b : Nat} (ha : a < 2 ^ 31) (hb : b < 2 ^ 31) (hc : mm_d M pc = some (.invokestatic idx, 3)) (hw1 : Cond.methodLink (mm_y M).cls idx Lib.Math.min.name ∈ lw_t2) (hw2 : Cond.static Lib.Math.min.name ∈ lw_t2) (hw3 : Cond.initialized "java/lang/Math" ∈ lw_t2) (hw4 : Cond.code Lib.Math.min.name Lib.Math.min.code 2 (some .int) ∈ lw_t2) (hf : 1 ≤ (mm_R M).frames) (hl : ((st.map (mm_v E)).map fun v => v.category).sum + 13 ≤ (mm_R M).locals) (h1 : cs ≤ (mm_R M).cells) (h2 : sl ≤ (mm_R M).slots)
    (k : mm_Go E M (pc + 3) lv (.int (nI (min a b)) :: st) n J G cs sl F) : mm_Go E M pc lv (.int (nI b) :: .int (nI a) :: st) n J G cs sl F := by
  refine mm_min hc hw1 hw2 hw3 hw4 hf hl h1 h2 ?_
  have e : (if nI b < nI a then nI b else nI a) = nI (min a b) := by
    by_cases h : b < a
    · rw [if_pos ((nI_ltI hb ha).mpr h)]
      congr 1
      omega
    · rw [if_neg (fun q => h ((nI_ltI hb ha).mp q))]
      congr 1
      omega
  rw [e]
  exact k
theorem mm_maxN {idx a b : Nat} (ha : a < 2 ^ 31) (hb : b < 2 ^ 31) (hc : mm_d M pc = some (.invokestatic idx, 3)) (hw1 : Cond.methodLink (mm_y M).cls idx Lib.Math.max.name ∈ lw_t2) (hw2 : Cond.static Lib.Math.max.name ∈ lw_t2) (hw3 : Cond.initialized "java/lang/Math" ∈ lw_t2) (hw4 : Cond.code Lib.Math.max.name Lib.Math.max.code 2 (some .int) ∈ lw_t2) (hf : 1 ≤ (mm_R M).frames) (hl : ((st.map (mm_v E)).map fun v => v.category).sum + 13 ≤ (mm_R M).locals) (h1 : cs ≤ (mm_R M).cells) (h2 : sl ≤ (mm_R M).slots)
    (k : mm_Go E M (pc + 3) lv (.int (nI (max a b)) :: st) n J G cs sl F) : mm_Go E M pc lv (.int (nI b) :: .int (nI a) :: st) n J G cs sl F := by
  refine mm_max hc hw1 hw2 hw3 hw4 hf hl h1 h2 ?_
  have e : (if nI a < nI b then nI b else nI a) = nI (max a b) := by
    by_cases h : a < b
    · rw [if_pos ((nI_ltI ha hb).mpr h)]
      congr 1
      omega
    · rw [if_neg (fun q => h ((nI_ltI ha hb).mp q))]
      congr 1
      omega
  rw [e]
  exact k
end MMC
theorem mm_cats {as : List Value} (h : as.all (fun v => v.category == 1) = true) : ∀ v ∈ as, v.category = 1 := fun v hv => by simpa using List.all_eq_true.mp h v hv
end
section
set_option maxRecDepth 100000 in
set_option maxHeartbeats 4000000 in
theorem sL_clear {E : mm_E} {G : mm_G} {J : mm_J} (hG : mm_GI G) {x : Nat} (hx : mm_SH x = .inl 2) : mm_Ret E qL_clear [.ref x] 86 J G none 86 (mm_set J x 1 (nI 0)) G := by
  refine mm_Met.of qL_clear_ok (by decide) (mm_cats rfl) (Nat.le_of_ble_eq_true rfl) ?_
  refine mm_aload_n rfl rfl ?_
  refine mm_iconst (v := nI 0) rfl (by decide) ?_
  refine mm_putI rfl rfl hx (mm_l1 hx) rfl (Or.inl rfl) rfl rfl ?_
  refine mm_return rfl rfl (by decide) (by decide) ?_
  exact ⟨rfl, rfl, rfl, rfl⟩
set_option maxRecDepth 100000 in
set_option maxHeartbeats 4000000 in
theorem sL_add {E : mm_E} {G : mm_G} {J : mm_J} (hG : mm_GI G) {x : Nat} (hx : mm_SH x = .inl 2) {k : Nat} {c : Int32} (hk : J x 1 = nI k) (hk2 : k < 100) : mm_Ret E qL_add [.ref x, .int c] 86 J G none 86 (mm_set (mm_set J (x + 1) k c) x 1 (nI (k + 1))) G := by
  refine mm_Met.of qL_add_ok (by decide) (mm_cats rfl) (Nat.le_of_ble_eq_true rfl) ?_
  refine mm_aload_n rfl rfl ?_
  refine mm_getI (x := nI k) rfl rfl hx (mm_l1 hx) rfl hk ?_
  refine mm_bipush (v := nI 100) rfl (by decide) ?_
  refine mm_icmp_geN (tgt := 29) rfl (by decide) (by omega) (by omega) (fun h6 => ?_) (fun h6 => ?_)
  · exact absurd h6 (by omega)
  · refine mm_aload_n rfl rfl ?_
    refine mm_getR rfl rfl hx (mm_l1 hx) rfl (hG.1 _ hx) ?_
    refine mm_aload_n rfl rfl ?_
    refine mm_getI (x := nI k) rfl rfl hx (mm_l1 hx) rfl hk ?_
    refine mm_iload_n rfl rfl ?_
    refine mm_wrN (mm_l2 hx) (by decide) rfl (mm_l3 hx) (by omega) (by decide) rfl ?_
    refine mm_aload_n rfl rfl ?_
    refine mm_dup rfl rfl ?_
    refine mm_getI (x := nI k) rfl rfl hx (mm_l1 hx) rfl (by simp [mm_set, mm_cp, hk]) ?_
    refine mm_iconst (v := nI 1) rfl (by decide) ?_
    refine mm_iaddN rfl ?_
    refine mm_putI rfl rfl hx (mm_l1 hx) rfl (Or.inl rfl) rfl rfl ?_
    refine mm_return rfl rfl (by decide) (by decide) ?_
    exact ⟨rfl, rfl, rfl, rfl⟩
set_option maxRecDepth 100000 in
set_option maxHeartbeats 4000000 in
theorem sL_append {E : mm_E} {G : mm_G} {J : mm_J} (hG : mm_GI G) {x : Nat} (hx : mm_SH x = .inl 2) {y : Nat} (hy : mm_SH y = .inl 2) (hxy : x ≠ y) {k m a b : Nat} (hk : J x 1 = nI k) (hm : J y 1 = nI m) (hab : a ≤ b) (hbm : b ≤ m) (hm2 : m ≤ 100) (hkb : k + (b - a) ≤ 100) : mm_Ret E qL_append [.ref x, .ref y, .int (nI a), .int (nI b)] 86 J G none 86 (mm_set (mm_cp J (y + 1) (x + 1) a k (b - a)) x 1 (nI (k + (b - a)))) G := by
  refine mm_Met.of qL_append_ok (by decide) (mm_cats rfl) (Nat.le_of_ble_eq_true rfl) ?_
  refine mm_iload_n rfl rfl ?_
  refine mm_iload_n rfl rfl ?_
  refine mm_isubN rfl (by omega) ?_
  refine mm_istore rfl (by decide) ?_
  refine mm_iload_n rfl rfl ?_
  refine mm_if_ltN (tgt := 34) rfl (by decide) (by omega) ?_
  refine mm_iload rfl rfl ?_
  refine mm_if_ltN (tgt := 34) rfl (by decide) (by omega) ?_
  refine mm_iload_n rfl rfl ?_
  refine mm_aload_n rfl rfl ?_
  refine mm_getI (x := nI m) rfl rfl hy (mm_l1 hy) rfl hm ?_
  refine mm_icmp_gtN (tgt := 34) rfl (by decide) (by omega) (by omega) (fun h19 => ?_) (fun h19 => ?_)
  · exact absurd h19 (by omega)
  · refine mm_aload_n rfl rfl ?_
    refine mm_getI (x := nI k) rfl rfl hx (mm_l1 hx) rfl hk ?_
    refine mm_iload rfl rfl ?_
    refine mm_iaddN rfl ?_
    refine mm_bipush (v := nI 100) rfl (by decide) ?_
    refine mm_icmp_leN (tgt := 35) rfl (by decide) (by omega) (by omega) (fun h31 => ?_) (fun h31 => ?_)
    · refine mm_aload_n rfl rfl ?_
      refine mm_getR rfl rfl hy (mm_l1 hy) rfl (hG.1 _ hy) ?_
      refine mm_iload_n rfl rfl ?_
      refine mm_aload_n rfl rfl ?_
      refine mm_getR rfl rfl hx (mm_l1 hx) rfl (hG.1 _ hx) ?_
      refine mm_aload_n rfl rfl ?_
      refine mm_getI (x := nI k) rfl rfl hx (mm_l1 hx) rfl hk ?_
      refine mm_iload rfl rfl ?_
      refine mm_copy rfl wd_253 wd_255 wd_254 wd_11 (mm_l2 hy) (mm_l2 hx) (by decide) rfl (mm_l3 hy) (mm_l3 hx) (nI_pos (by omega)) (nI_pos (by omega)) (nI_pos (by omega)) (by rw [nI_clamp (by omega), nI_clamp (by omega)]; omega) (by rw [nI_clamp (by omega), nI_clamp (by omega)]; omega) (by decide) (Nat.le_of_ble_eq_true rfl) ?_
      rw [nI_clamp (by omega), nI_clamp (by omega), nI_clamp (by omega)]
      refine mm_aload_n rfl rfl ?_
      refine mm_dup rfl rfl ?_
      refine mm_getI (x := nI k) rfl rfl hx (mm_l1 hx) rfl (by simp [mm_set, mm_cp, hk]) ?_
      refine mm_iload rfl rfl ?_
      refine mm_iaddN rfl ?_
      refine mm_putI rfl rfl hx (mm_l1 hx) rfl (Or.inl rfl) rfl rfl ?_
      refine mm_return rfl rfl (by decide) (by decide) ?_
      exact ⟨rfl, rfl, rfl, rfl⟩
    · exact absurd h31 (by omega)
end
section
set_option maxRecDepth 100000 in
set_option maxHeartbeats 4000000 in
theorem sE_isLetter {E : mm_E} {G : mm_G} {J : mm_J} {c : Int32} : mm_Ret E qE_isLetter [.int c] 86 J G (some (.int (nI (ed_b (ed_ltc c))))) 86 J G := by
  refine mm_Met.of qE_isLetter_ok (by decide) (mm_cats rfl) (Nat.le_of_ble_eq_true rfl) ?_
  refine mm_iload_n rfl rfl ?_
  refine mm_bipush (v := nI 97) rfl (by decide) ?_
  refine mm_icmp_lt (tgt := 16) rfl (by decide) (fun h3 => ?_) (fun h3 => ?_)
  · refine mm_iconst (v := nI 0) rfl (by decide) ?_
    refine mm_ireturn rfl rfl rfl (by decide) (by decide) ?_
    exact ⟨by rw [show ed_ltc c = false from by simp only [ed_ltc, decide_eq_false_iff_not]; exact fun q => absurd q.1 (Int32.not_le.mpr h3)]; rfl, rfl, rfl, rfl⟩
  · refine mm_iload_n rfl rfl ?_
    refine mm_bipush (v := nI 122) rfl (by decide) ?_
    refine mm_icmp_gt (tgt := 16) rfl (by decide) (fun h9 => ?_) (fun h9 => ?_)
    · refine mm_iconst (v := nI 0) rfl (by decide) ?_
      refine mm_ireturn rfl rfl rfl (by decide) (by decide) ?_
      exact ⟨by rw [show ed_ltc c = false from by simp only [ed_ltc, decide_eq_false_iff_not]; exact fun q => absurd q.2 (Int32.not_le.mpr h9)]; rfl, rfl, rfl, rfl⟩
    · refine mm_iconst (v := nI 1) rfl (by decide) ?_
      refine mm_goto (tgt := 17) rfl (by decide) ?_
      refine mm_ireturn rfl rfl rfl (by decide) (by decide) ?_
      exact ⟨by rw [show ed_ltc c = true from by simp [ed_ltc, Int32.not_lt.mp h3, Int32.not_lt.mp h9]]; rfl, rfl, rfl, rfl⟩
set_option maxRecDepth 100000 in
set_option maxHeartbeats 4000000 in
theorem sR_letter {E : mm_E} {G : mm_G} {J : mm_J} {c : Int32} : mm_Ret E qR_letter [.int c] 86 J G (some (.int (nI (ed_b (ed_ltc c))))) 86 J G := by
  refine mm_Met.of qR_letter_ok (by decide) (mm_cats rfl) (Nat.le_of_ble_eq_true rfl) ?_
  refine mm_iload_n rfl rfl ?_
  refine mm_bipush (v := nI 97) rfl (by decide) ?_
  refine mm_icmp_lt (tgt := 16) rfl (by decide) (fun h3 => ?_) (fun h3 => ?_)
  · refine mm_iconst (v := nI 0) rfl (by decide) ?_
    refine mm_ireturn rfl rfl rfl (by decide) (by decide) ?_
    exact ⟨by rw [show ed_ltc c = false from by simp only [ed_ltc, decide_eq_false_iff_not]; exact fun q => absurd q.1 (Int32.not_le.mpr h3)]; rfl, rfl, rfl, rfl⟩
  · refine mm_iload_n rfl rfl ?_
    refine mm_bipush (v := nI 122) rfl (by decide) ?_
    refine mm_icmp_gt (tgt := 16) rfl (by decide) (fun h9 => ?_) (fun h9 => ?_)
    · refine mm_iconst (v := nI 0) rfl (by decide) ?_
      refine mm_ireturn rfl rfl rfl (by decide) (by decide) ?_
      exact ⟨by rw [show ed_ltc c = false from by simp only [ed_ltc, decide_eq_false_iff_not]; exact fun q => absurd q.2 (Int32.not_le.mpr h9)]; rfl, rfl, rfl, rfl⟩
    · refine mm_iconst (v := nI 1) rfl (by decide) ?_
      refine mm_goto (tgt := 17) rfl (by decide) ?_
      refine mm_ireturn rfl rfl rfl (by decide) (by decide) ?_
      exact ⟨by rw [show ed_ltc c = true from by simp [ed_ltc, Int32.not_lt.mp h3, Int32.not_lt.mp h9]]; rfl, rfl, rfl, rfl⟩
set_option maxRecDepth 100000 in
set_option maxHeartbeats 4000000 in
theorem lT_lineBeginning {E : mm_E} {G : mm_G} {J : mm_J} (hG : mm_GI G) {p0 : Nat} : ∀ p : Nat, p ≤ 100 → mm_Go E qT_lineBeginning 2 [some (.ref 1), some (.int (nI p0)), some (.int (nI p))] [] 86 J G 0 0 (mm_Fm E qT_lineBeginning (mm_is (some (.int (nI (ed_lb (J 3) p)))) 86 J G))
  | 0, hp => by
    refine mm_iload_n rfl rfl ?_
    refine mm_if_leN (tgt := 28) rfl (by decide) (by omega) (fun h3 => ?_) (fun h3 => ?_)
    · refine mm_iload_n rfl rfl ?_
      refine mm_ireturn rfl rfl rfl (by decide) (by decide) ?_
      exact ⟨rfl, rfl, rfl, rfl⟩
    · exact absurd h3 (by omega)
  | p + 1, hp => by
    refine mm_iload_n rfl rfl ?_
    refine mm_if_leN (tgt := 28) rfl (by decide) (by omega) (fun h3 => ?_) (fun h3 => ?_)
    · exact absurd h3 (by omega)
    · refine mm_aload_n rfl rfl ?_
      refine mm_getR rfl rfl rfl (by decide) rfl (mm_gi hG 1 0 2 (by decide)) ?_
      refine mm_getR rfl rfl rfl (by decide) rfl (mm_gi hG 2 0 3 (by decide)) ?_
      refine mm_iload_n rfl rfl ?_
      refine mm_iconst (v := nI 1) rfl (by decide) ?_
      refine mm_isubN rfl (by omega) ?_
      refine mm_rdN rfl (by decide) rfl (by decide) (by omega) (by decide) rfl rfl ?_
      refine mm_bipush (v := nI 10) rfl (by decide) ?_
      refine mm_icmp_eq (tgt := 28) rfl (by decide) (fun h19 => ?_) (fun h19 => ?_)
      · refine mm_iload_n rfl rfl ?_
        refine mm_ireturn rfl rfl rfl (by decide) (by decide) ?_
        exact ⟨by rw [show ed_lb (J 3) (p + 1) = p + 1 from ed_dn_n (ed_nl_n h19)], rfl, rfl, rfl⟩
      · refine mm_iincN rfl rfl (mm_dec1 (by omega)) (by decide) ?_
        refine mm_goto (tgt := 2) rfl (by decide) ?_
        rw [show ed_lb (J 3) (p + 1) = ed_lb (J 3) p from ed_dn_y (ed_nl_y h19)]
        exact lT_lineBeginning hG p (by omega)
set_option maxRecDepth 100000 in
set_option maxHeartbeats 4000000 in
theorem sT_lineBeginning {E : mm_E} {G : mm_G} {J : mm_J} (hG : mm_GI G) {p : Nat} (hp : p ≤ 100) : mm_Ret E qT_lineBeginning [.ref 1, .int (nI p)] 86 J G (some (.int (nI (ed_lb (J 3) p)))) 86 J G := by
  refine mm_Met.of qT_lineBeginning_ok (by decide) (mm_cats rfl) (Nat.le_of_ble_eq_true rfl) ?_
  refine mm_iload_n rfl rfl ?_
  refine mm_istore_n rfl (by decide) ?_
  exact lT_lineBeginning hG p hp
set_option maxRecDepth 100000 in
set_option maxHeartbeats 4000000 in
theorem lR_lineStart {E : mm_E} {G : mm_G} {J : mm_J} (hG : mm_GI G) {p0 : Nat} : ∀ p : Nat, p ≤ 100 → mm_Go E qR_lineStart 2 [some (.ref 69), some (.int (nI p0)), some (.int (nI p))] [] 86 J G 0 0 (mm_Fm E qR_lineStart (mm_is (some (.int (nI (ed_lb (J 70) p)))) 86 J G))
  | 0, hp => by
    refine mm_iload_n rfl rfl ?_
    refine mm_if_leN (tgt := 25) rfl (by decide) (by omega) (fun h3 => ?_) (fun h3 => ?_)
    · refine mm_iload_n rfl rfl ?_
      refine mm_ireturn rfl rfl rfl (by decide) (by decide) ?_
      exact ⟨rfl, rfl, rfl, rfl⟩
    · exact absurd h3 (by omega)
  | p + 1, hp => by
    refine mm_iload_n rfl rfl ?_
    refine mm_if_leN (tgt := 25) rfl (by decide) (by omega) (fun h3 => ?_) (fun h3 => ?_)
    · exact absurd h3 (by omega)
    · refine mm_aload_n rfl rfl ?_
      refine mm_getR rfl rfl rfl (by decide) rfl (mm_gi hG 69 0 70 (by decide)) ?_
      refine mm_iload_n rfl rfl ?_
      refine mm_iconst (v := nI 1) rfl (by decide) ?_
      refine mm_isubN rfl (by omega) ?_
      refine mm_rdN rfl (by decide) rfl (by decide) (by omega) (by decide) rfl rfl ?_
      refine mm_bipush (v := nI 10) rfl (by decide) ?_
      refine mm_icmp_eq (tgt := 25) rfl (by decide) (fun h16 => ?_) (fun h16 => ?_)
      · refine mm_iload_n rfl rfl ?_
        refine mm_ireturn rfl rfl rfl (by decide) (by decide) ?_
        exact ⟨by rw [show ed_lb (J 70) (p + 1) = p + 1 from ed_dn_n (ed_nl_n h16)], rfl, rfl, rfl⟩
      · refine mm_iincN rfl rfl (mm_dec1 (by omega)) (by decide) ?_
        refine mm_goto (tgt := 2) rfl (by decide) ?_
        rw [show ed_lb (J 70) (p + 1) = ed_lb (J 70) p from ed_dn_y (ed_nl_y h16)]
        exact lR_lineStart hG p (by omega)
set_option maxRecDepth 100000 in
set_option maxHeartbeats 4000000 in
theorem sR_lineStart {E : mm_E} {G : mm_G} {J : mm_J} (hG : mm_GI G) {p : Nat} (hp : p ≤ 100) : mm_Ret E qR_lineStart [.ref 69, .int (nI p)] 86 J G (some (.int (nI (ed_lb (J 70) p)))) 86 J G := by
  refine mm_Met.of qR_lineStart_ok (by decide) (mm_cats rfl) (Nat.le_of_ble_eq_true rfl) ?_
  refine mm_iload_n rfl rfl ?_
  refine mm_istore_n rfl (by decide) ?_
  exact lR_lineStart hG p hp
set_option maxRecDepth 100000 in
set_option maxHeartbeats 4000000 in
theorem lT_lineEnd {E : mm_E} {G : mm_G} {J : mm_J} (hG : mm_GI G) {n : Nat} (hn : J 2 1 = nI n) (hn2 : n ≤ 100) {p0 : Nat} : ∀ k p : Nat, n - p = k → p ≤ n → mm_Go E qT_lineEnd 2 [some (.ref 1), some (.int (nI p0)), some (.int (nI p))] [] 86 J G 0 0 (mm_Fm E qT_lineEnd (mm_is (some (.int (nI (ed_up (ed_nl (J 3)) k p)))) 86 J G))
  | 0, p, hk, hp => by
    refine mm_iload_n rfl rfl ?_
    refine mm_aload_n rfl rfl ?_
    refine mm_getR rfl rfl rfl (by decide) rfl (mm_gi hG 1 0 2 (by decide)) ?_
    refine mm_getI (x := nI n) rfl rfl rfl (by decide) rfl hn ?_
    refine mm_icmp_geN (tgt := 33) rfl (by decide) (by omega) (by omega) (fun h10 => ?_) (fun h10 => ?_)
    · refine mm_iload_n rfl rfl ?_
      refine mm_ireturn rfl rfl rfl (by decide) (by decide) ?_
      exact ⟨rfl, rfl, rfl, rfl⟩
    · exact absurd h10 (by omega)
  | k + 1, p, hk, hp => by
    refine mm_iload_n rfl rfl ?_
    refine mm_aload_n rfl rfl ?_
    refine mm_getR rfl rfl rfl (by decide) rfl (mm_gi hG 1 0 2 (by decide)) ?_
    refine mm_getI (x := nI n) rfl rfl rfl (by decide) rfl hn ?_
    refine mm_icmp_geN (tgt := 33) rfl (by decide) (by omega) (by omega) (fun h10 => ?_) (fun h10 => ?_)
    · exact absurd h10 (by omega)
    · refine mm_aload_n rfl rfl ?_
      refine mm_getR rfl rfl rfl (by decide) rfl (mm_gi hG 1 0 2 (by decide)) ?_
      refine mm_getR rfl rfl rfl (by decide) rfl (mm_gi hG 2 0 3 (by decide)) ?_
      refine mm_iload_n rfl rfl ?_
      refine mm_rdN rfl (by decide) rfl (by decide) (by omega) (by decide) rfl rfl ?_
      refine mm_bipush (v := nI 10) rfl (by decide) ?_
      refine mm_icmp_eq (tgt := 33) rfl (by decide) (fun h24 => ?_) (fun h24 => ?_)
      · refine mm_iload_n rfl rfl ?_
        refine mm_ireturn rfl rfl rfl (by decide) (by decide) ?_
        exact ⟨by rw [ed_up_n (ed_nl_n h24)], rfl, rfl, rfl⟩
      · refine mm_iincN rfl rfl (mm_inc1 _) (by decide) ?_
        refine mm_goto (tgt := 2) rfl (by decide) ?_
        rw [ed_up_y (ed_nl_y h24)]
        exact lT_lineEnd hG hn hn2 k (p + 1) (by omega) (by omega)
set_option maxRecDepth 100000 in
set_option maxHeartbeats 4000000 in
theorem sT_lineEnd {E : mm_E} {G : mm_G} {J : mm_J} (hG : mm_GI G) {n : Nat} (hn : J 2 1 = nI n) (hn2 : n ≤ 100) {p : Nat} (hp : p ≤ n) : mm_Ret E qT_lineEnd [.ref 1, .int (nI p)] 86 J G (some (.int (nI (ed_le (J 3) n p)))) 86 J G := by
  refine mm_Met.of qT_lineEnd_ok (by decide) (mm_cats rfl) (Nat.le_of_ble_eq_true rfl) ?_
  refine mm_iload_n rfl rfl ?_
  refine mm_istore_n rfl (by decide) ?_
  exact lT_lineEnd hG hn hn2 (n - p) p rfl hp
set_option maxRecDepth 100000 in
set_option maxHeartbeats 4000000 in
theorem lR_lineEnd {E : mm_E} {G : mm_G} {J : mm_J} (hG : mm_GI G) {n : Nat} (hn : J 69 3 = nI n) (hn2 : n ≤ 100) {p0 : Nat} : ∀ k p : Nat, n - p = k → p ≤ n → mm_Go E qR_lineEnd 2 [some (.ref 69), some (.int (nI p0)), some (.int (nI p))] [] 86 J G 0 0 (mm_Fm E qR_lineEnd (mm_is (some (.int (nI (ed_up (ed_nl (J 70)) k p)))) 86 J G))
  | 0, p, hk, hp => by
    refine mm_iload_n rfl rfl ?_
    refine mm_aload_n rfl rfl ?_
    refine mm_getI (x := nI n) rfl rfl rfl (by decide) rfl hn ?_
    refine mm_icmp_geN (tgt := 27) rfl (by decide) (by omega) (by omega) (fun h7 => ?_) (fun h7 => ?_)
    · refine mm_iload_n rfl rfl ?_
      refine mm_ireturn rfl rfl rfl (by decide) (by decide) ?_
      exact ⟨rfl, rfl, rfl, rfl⟩
    · exact absurd h7 (by omega)
  | k + 1, p, hk, hp => by
    refine mm_iload_n rfl rfl ?_
    refine mm_aload_n rfl rfl ?_
    refine mm_getI (x := nI n) rfl rfl rfl (by decide) rfl hn ?_
    refine mm_icmp_geN (tgt := 27) rfl (by decide) (by omega) (by omega) (fun h7 => ?_) (fun h7 => ?_)
    · exact absurd h7 (by omega)
    · refine mm_aload_n rfl rfl ?_
      refine mm_getR rfl rfl rfl (by decide) rfl (mm_gi hG 69 0 70 (by decide)) ?_
      refine mm_iload_n rfl rfl ?_
      refine mm_rdN rfl (by decide) rfl (by decide) (by omega) (by decide) rfl rfl ?_
      refine mm_bipush (v := nI 10) rfl (by decide) ?_
      refine mm_icmp_eq (tgt := 27) rfl (by decide) (fun h18 => ?_) (fun h18 => ?_)
      · refine mm_iload_n rfl rfl ?_
        refine mm_ireturn rfl rfl rfl (by decide) (by decide) ?_
        exact ⟨by rw [ed_up_n (ed_nl_n h18)], rfl, rfl, rfl⟩
      · refine mm_iincN rfl rfl (mm_inc1 _) (by decide) ?_
        refine mm_goto (tgt := 2) rfl (by decide) ?_
        rw [ed_up_y (ed_nl_y h18)]
        exact lR_lineEnd hG hn hn2 k (p + 1) (by omega) (by omega)
set_option maxRecDepth 100000 in
set_option maxHeartbeats 4000000 in
theorem sR_lineEnd {E : mm_E} {G : mm_G} {J : mm_J} (hG : mm_GI G) {n : Nat} (hn : J 69 3 = nI n) (hn2 : n ≤ 100) {p : Nat} (hp : p ≤ n) : mm_Ret E qR_lineEnd [.ref 69, .int (nI p)] 86 J G (some (.int (nI (ed_le (J 70) n p)))) 86 J G := by
  refine mm_Met.of qR_lineEnd_ok (by decide) (mm_cats rfl) (Nat.le_of_ble_eq_true rfl) ?_
  refine mm_iload_n rfl rfl ?_
  refine mm_istore_n rfl (by decide) ?_
  exact lR_lineEnd hG hn hn2 (n - p) p rfl hp
end
section
theorem ed_below_le {f : Nat → Int32} {n : Nat} : ∀ k b, b ≤ n → ed_below f n k b ≤ n
  | 0, b, h => h
  | k + 1, b, h => by
    have h1 := ed_le_le (f := f) h
    unfold ed_below
    split
    · exact ed_below_le k _ (by omega)
    · exact ed_below_le k _ h
theorem ed_above_le {f : Nat → Int32} : ∀ k b, ed_above f k b ≤ b
  | 0, b => Nat.le_refl b
  | k + 1, b => by
    unfold ed_above
    split
    · have h1 := ed_above_le (f := f) k (ed_lb f (b - 1))
      have h2 := ed_lb_le (f := f) (p := b - 1)
      omega
    · omega
set_option maxRecDepth 100000 in
set_option maxHeartbeats 4000000 in
theorem lT_beginningBelow {E : mm_E} {G : mm_G} {J : mm_J} (hG : mm_GI G) {n : Nat} (hn : J 2 1 = nI n) (hn2 : n ≤ 100) {p0 l : Nat} (hl : l ≤ 9) : ∀ (k b i : Nat) (z : Option Value), l - i = k → i ≤ l → b ≤ n → mm_Go E qT_beginningBelow 9 [some (.ref 1), some (.int (nI p0)), some (.int (nI l)), some (.int (nI b)), some (.int (nI i)), z] [] 86 J G 0 0 (mm_Fm E qT_beginningBelow (mm_is (some (.int (nI (ed_below (J 3) n k b)))) 86 J G))
  | 0, b, i, z, hk, hi, hb => by
    refine mm_iload rfl rfl ?_
    refine mm_iload_n rfl rfl ?_
    refine mm_icmp_geN (tgt := 49) rfl (by decide) (by omega) (by omega) (fun h12 => ?_) (fun h12 => ?_)
    · refine mm_iload_n rfl rfl ?_
      refine mm_ireturn rfl rfl rfl (by decide) (by decide) ?_
      exact ⟨rfl, rfl, rfl, rfl⟩
    · exact absurd h12 (by omega)
  | k + 1, b, i, z, hk, hi, hb => by
    refine mm_iload rfl rfl ?_
    refine mm_iload_n rfl rfl ?_
    refine mm_icmp_geN (tgt := 49) rfl (by decide) (by omega) (by omega) (fun h12 => ?_) (fun h12 => ?_)
    · exact absurd h12 (by omega)
    · refine mm_aload_n rfl rfl ?_
      refine mm_iload_n rfl rfl ?_
      refine mm_isV1 (M2 := qT_lineEnd) wd_316 qT_lineEnd_k (by decide) (sT_lineEnd hG hn hn2 hb) rfl (by decide) (Nat.le_of_ble_eq_true rfl) (by decide) (by decide) rfl (by decide) ?_
      have hle := ed_le_le (f := J 3) hb
      refine mm_istore rfl (by decide) ?_
      refine mm_iload rfl rfl ?_
      refine mm_aload_n rfl rfl ?_
      refine mm_getR rfl rfl rfl (by decide) rfl (mm_gi hG 1 0 2 (by decide)) ?_
      refine mm_getI (x := nI n) rfl rfl rfl (by decide) rfl hn ?_
      refine mm_icmp_geN (tgt := 41) rfl (by decide) (by omega) (by omega) (fun h31 => ?_) (fun h31 => ?_)
      · refine mm_iload_n rfl rfl ?_
        refine mm_istore_n rfl (by decide) ?_
        refine mm_iincN rfl rfl (mm_inc1 _) (by decide) ?_
        refine mm_goto (tgt := 9) rfl (by decide) ?_
        rw [show ed_below (J 3) n (k + 1) b = ed_below (J 3) n k b from by rw [ed_below, if_neg (by omega)]]
        exact lT_beginningBelow hG hn hn2 hl k b (i + 1) _ (by omega) (by omega) (by omega)
      · refine mm_iload rfl rfl ?_
        refine mm_iconst (v := nI 1) rfl (by decide) ?_
        refine mm_iaddN rfl ?_
        refine mm_goto (tgt := 42) rfl (by decide) ?_
        refine mm_istore_n rfl (by decide) ?_
        refine mm_iincN rfl rfl (mm_inc1 _) (by decide) ?_
        refine mm_goto (tgt := 9) rfl (by decide) ?_
        rw [show ed_below (J 3) n (k + 1) b = ed_below (J 3) n k (ed_le (J 3) n b + 1) from by rw [ed_below, if_pos (by omega)]]
        exact lT_beginningBelow hG hn hn2 hl k (ed_le (J 3) n b + 1) (i + 1) _ (by omega) (by omega) (by omega)
set_option maxRecDepth 100000 in
set_option maxHeartbeats 4000000 in
theorem sT_beginningBelow {E : mm_E} {G : mm_G} {J : mm_J} (hG : mm_GI G) {n : Nat} (hn : J 2 1 = nI n) (hn2 : n ≤ 100) {p0 l : Nat} (hl : l ≤ 9) (hp : p0 ≤ n) : mm_Ret E qT_beginningBelow [.ref 1, .int (nI p0), .int (nI l)] 86 J G (some (.int (nI (ed_below (J 3) n l (ed_lb (J 3) p0))))) 86 J G := by
  refine mm_Met.of qT_beginningBelow_ok (by decide) (mm_cats rfl) (Nat.le_of_ble_eq_true rfl) ?_
  refine mm_aload_n rfl rfl ?_
  refine mm_iload_n rfl rfl ?_
  refine mm_isV1 (M2 := qT_lineBeginning) wd_312 qT_lineBeginning_k (by decide) (sT_lineBeginning hG (by omega)) rfl (by decide) (Nat.le_of_ble_eq_true rfl) (by decide) (by decide) rfl (by decide) ?_
  have hlb := ed_lb_le (f := J 3) (p := p0)
  refine mm_istore_n rfl (by decide) ?_
  refine mm_iconst (v := nI 0) rfl (by decide) ?_
  refine mm_istore rfl (by decide) ?_
  exact lT_beginningBelow hG hn hn2 hl l (ed_lb (J 3) p0) 0 none rfl (by omega) (by omega)
set_option maxRecDepth 100000 in
set_option maxHeartbeats 4000000 in
theorem lT_beginningAbove {E : mm_E} {G : mm_G} {J : mm_J} (hG : mm_GI G) {p0 l : Nat} (hl : l ≤ 9) : ∀ (k b i : Nat), l - i = k → i ≤ l → b ≤ 100 → mm_Go E qT_beginningAbove 9 [some (.ref 1), some (.int (nI p0)), some (.int (nI l)), some (.int (nI b)), some (.int (nI i))] [] 86 J G 0 0 (mm_Fm E qT_beginningAbove (mm_is (some (.int (nI (ed_above (J 3) k b)))) 86 J G))
  | 0, b, i, hk, hi, hb => by
    refine mm_iload rfl rfl ?_
    refine mm_iload_n rfl rfl ?_
    refine mm_icmp_geN (tgt := 33) rfl (by decide) (by omega) (by omega) (fun h12 => ?_) (fun h12 => ?_)
    · refine mm_iload_n rfl rfl ?_
      refine mm_ireturn rfl rfl rfl (by decide) (by decide) ?_
      exact ⟨rfl, rfl, rfl, rfl⟩
    · exact absurd h12 (by omega)
  | k + 1, b, i, hk, hi, hb => by
    refine mm_iload rfl rfl ?_
    refine mm_iload_n rfl rfl ?_
    refine mm_icmp_geN (tgt := 33) rfl (by decide) (by omega) (by omega) (fun h12 => ?_) (fun h12 => ?_)
    · exact absurd h12 (by omega)
    · refine mm_iload_n rfl rfl ?_
      refine mm_if_leN (tgt := 33) rfl (by decide) (by omega) (fun h16 => ?_) (fun h16 => ?_)
      · refine mm_iload_n rfl rfl ?_
        refine mm_ireturn rfl rfl rfl (by decide) (by decide) ?_
        exact ⟨by rw [show ed_above (J 3) (k + 1) b = b from by rw [ed_above, if_neg (by omega)]], rfl, rfl, rfl⟩
      · refine mm_aload_n rfl rfl ?_
        refine mm_iload_n rfl rfl ?_
        refine mm_iconst (v := nI 1) rfl (by decide) ?_
        refine mm_isubN rfl (by omega) ?_
        refine mm_isV1 (M2 := qT_lineBeginning) wd_312 qT_lineBeginning_k (by decide) (sT_lineBeginning hG (by omega)) rfl (by decide) (Nat.le_of_ble_eq_true rfl) (by decide) (by decide) rfl (by decide) ?_
        have hlb := ed_lb_le (f := J 3) (p := b - 1)
        refine mm_istore_n rfl (by decide) ?_
        refine mm_iincN rfl rfl (mm_inc1 _) (by decide) ?_
        refine mm_goto (tgt := 9) rfl (by decide) ?_
        rw [show ed_above (J 3) (k + 1) b = ed_above (J 3) k (ed_lb (J 3) (b - 1)) from by rw [ed_above, if_pos (by omega)]]
        exact lT_beginningAbove hG hl k (ed_lb (J 3) (b - 1)) (i + 1) (by omega) (by omega) (by omega)
set_option maxRecDepth 100000 in
set_option maxHeartbeats 4000000 in
theorem sT_beginningAbove {E : mm_E} {G : mm_G} {J : mm_J} (hG : mm_GI G) {p0 l : Nat} (hl : l ≤ 9) (hp : p0 ≤ 100) : mm_Ret E qT_beginningAbove [.ref 1, .int (nI p0), .int (nI l)] 86 J G (some (.int (nI (ed_above (J 3) l (ed_lb (J 3) p0))))) 86 J G := by
  refine mm_Met.of qT_beginningAbove_ok (by decide) (mm_cats rfl) (Nat.le_of_ble_eq_true rfl) ?_
  refine mm_aload_n rfl rfl ?_
  refine mm_iload_n rfl rfl ?_
  refine mm_isV1 (M2 := qT_lineBeginning) wd_312 qT_lineBeginning_k (by decide) (sT_lineBeginning hG (by omega)) rfl (by decide) (Nat.le_of_ble_eq_true rfl) (by decide) (by decide) rfl (by decide) ?_
  have hlb := ed_lb_le (f := J 3) (p := p0)
  refine mm_istore_n rfl (by decide) ?_
  refine mm_iconst (v := nI 0) rfl (by decide) ?_
  refine mm_istore rfl (by decide) ?_
  exact lT_beginningAbove hG hl l (ed_lb (J 3) p0) 0 rfl (by omega) (by omega)
theorem ed_bne {b : Bool} (h : ¬ ed_b b = 0) : b = true := by
  cases b
  · exact absurd rfl h
  · rfl
theorem ed_beq {b : Bool} (h : ed_b b = 0) : b = false := by
  cases b
  · rfl
  · exact absurd h (by decide)
theorem ed_b31 (b : Bool) : ed_b b < 2 ^ 31 := by cases b <;> decide
theorem ed_nlt_y {f : Nat → Int32} {i : Nat} (h : ed_ltc (f i) = false) : ed_nlt f i = true := by unfold ed_nlt; rw [h]; rfl
theorem ed_nlt_n {f : Nat → Int32} {i : Nat} (h : ed_ltc (f i) = true) : ed_nlt f i = false := by unfold ed_nlt; rw [h]; rfl
set_option maxRecDepth 100000 in
set_option maxHeartbeats 4000000 in
theorem lT_bw1 {E : mm_E} {G : mm_G} {J : mm_J} (hG : mm_GI G) {n : Nat} (hn : J 2 1 = nI n) (hn2 : n ≤ 100) {p0 l : Nat} : ∀ (k p i : Nat) (F : mm_F), n - p = k → p ≤ n → (kk : mm_Go E qT_behindWords 43 [some (.ref 1), some (.int (nI p0)), some (.int (nI l)), some (.int (nI (ed_up (ed_nlt (J 3)) k p))), some (.int (nI i))] [] 86 J G 0 0 F) → mm_Go E qT_behindWords 11 [some (.ref 1), some (.int (nI p0)), some (.int (nI l)), some (.int (nI p)), some (.int (nI i))] [] 86 J G 0 0 F
  | 0, p, i, F, hk, hp, kk => by
    refine mm_iload_n rfl rfl ?_
    refine mm_aload_n rfl rfl ?_
    refine mm_getR rfl rfl rfl (by decide) rfl (mm_gi hG 1 0 2 (by decide)) ?_
    refine mm_getI (x := nI n) rfl rfl rfl (by decide) rfl hn ?_
    refine mm_icmp_geN (tgt := 43) rfl (by decide) (by omega) (by omega) (fun h19 => ?_) (fun h19 => ?_)
    · exact kk
    · exact absurd h19 (by omega)
  | k + 1, p, i, F, hk, hp, kk => by
    refine mm_iload_n rfl rfl ?_
    refine mm_aload_n rfl rfl ?_
    refine mm_getR rfl rfl rfl (by decide) rfl (mm_gi hG 1 0 2 (by decide)) ?_
    refine mm_getI (x := nI n) rfl rfl rfl (by decide) rfl hn ?_
    refine mm_icmp_geN (tgt := 43) rfl (by decide) (by omega) (by omega) (fun h19 => ?_) (fun h19 => ?_)
    · exact absurd h19 (by omega)
    · refine mm_aload_n rfl rfl ?_
      refine mm_getR rfl rfl rfl (by decide) rfl (mm_gi hG 1 0 2 (by decide)) ?_
      refine mm_getR rfl rfl rfl (by decide) rfl (mm_gi hG 2 0 3 (by decide)) ?_
      refine mm_iload_n rfl rfl ?_
      refine mm_rdN rfl (by decide) rfl (by decide) (by omega) (by decide) rfl rfl ?_
      refine mm_isN1 (M2 := qE_isLetter) (fun _ h => h.2) qE_isLetter_k (by decide) sE_isLetter (Nat.le_of_ble_eq_true rfl) (by decide) (by decide) rfl (by decide) ?_
      refine mm_if_neN (tgt := 43) rfl (by decide) (ed_b31 _) (fun h34 => ?_) (fun h34 => ?_)
      · rw [ed_up_n (ed_nlt_n (ed_bne h34))] at kk
        exact kk
      · refine mm_iincN rfl rfl (mm_inc1 _) (by decide) ?_
        refine mm_goto (tgt := 11) rfl (by decide) ?_
        rw [ed_up_y (ed_nlt_y (ed_beq h34))] at kk
        exact lT_bw1 hG hn hn2 k (p + 1) i F (by omega) (by omega) kk
set_option maxRecDepth 100000 in
set_option maxHeartbeats 4000000 in
theorem lT_bw2 {E : mm_E} {G : mm_G} {J : mm_J} (hG : mm_GI G) {n : Nat} (hn : J 2 1 = nI n) (hn2 : n ≤ 100) {p0 l : Nat} : ∀ (k p i : Nat) (F : mm_F), n - p = k → p ≤ n → (kk : mm_Go E qT_behindWords 75 [some (.ref 1), some (.int (nI p0)), some (.int (nI l)), some (.int (nI (ed_up (ed_lt (J 3)) k p))), some (.int (nI i))] [] 86 J G 0 0 F) → mm_Go E qT_behindWords 43 [some (.ref 1), some (.int (nI p0)), some (.int (nI l)), some (.int (nI p)), some (.int (nI i))] [] 86 J G 0 0 F
  | 0, p, i, F, hk, hp, kk => by
    refine mm_iload_n rfl rfl ?_
    refine mm_aload_n rfl rfl ?_
    refine mm_getR rfl rfl rfl (by decide) rfl (mm_gi hG 1 0 2 (by decide)) ?_
    refine mm_getI (x := nI n) rfl rfl rfl (by decide) rfl hn ?_
    refine mm_icmp_geN (tgt := 75) rfl (by decide) (by omega) (by omega) (fun h51 => ?_) (fun h51 => ?_)
    · exact kk
    · exact absurd h51 (by omega)
  | k + 1, p, i, F, hk, hp, kk => by
    refine mm_iload_n rfl rfl ?_
    refine mm_aload_n rfl rfl ?_
    refine mm_getR rfl rfl rfl (by decide) rfl (mm_gi hG 1 0 2 (by decide)) ?_
    refine mm_getI (x := nI n) rfl rfl rfl (by decide) rfl hn ?_
    refine mm_icmp_geN (tgt := 75) rfl (by decide) (by omega) (by omega) (fun h51 => ?_) (fun h51 => ?_)
    · exact absurd h51 (by omega)
    · refine mm_aload_n rfl rfl ?_
      refine mm_getR rfl rfl rfl (by decide) rfl (mm_gi hG 1 0 2 (by decide)) ?_
      refine mm_getR rfl rfl rfl (by decide) rfl (mm_gi hG 2 0 3 (by decide)) ?_
      refine mm_iload_n rfl rfl ?_
      refine mm_rdN rfl (by decide) rfl (by decide) (by omega) (by decide) rfl rfl ?_
      refine mm_isN1 (M2 := qE_isLetter) (fun _ h => h.2) qE_isLetter_k (by decide) sE_isLetter (Nat.le_of_ble_eq_true rfl) (by decide) (by decide) rfl (by decide) ?_
      refine mm_if_eqN (tgt := 75) rfl (by decide) (ed_b31 _) (fun h66 => ?_) (fun h66 => ?_)
      · rw [ed_up_n (ed_beq h66)] at kk
        exact kk
      · refine mm_iincN rfl rfl (mm_inc1 _) (by decide) ?_
        refine mm_goto (tgt := 43) rfl (by decide) ?_
        rw [ed_up_y (ed_bne h66)] at kk
        exact lT_bw2 hG hn hn2 k (p + 1) i F (by omega) (by omega) kk
set_option maxRecDepth 100000 in
set_option maxHeartbeats 4000000 in
theorem lT_behindWords {E : mm_E} {G : mm_G} {J : mm_J} (hG : mm_GI G) {n : Nat} (hn : J 2 1 = nI n) (hn2 : n ≤ 100) {p0 l : Nat} (hl : l ≤ 9) : ∀ (k p i : Nat), l - i = k → i ≤ l → p ≤ n → mm_Go E qT_behindWords 5 [some (.ref 1), some (.int (nI p0)), some (.int (nI l)), some (.int (nI p)), some (.int (nI i))] [] 86 J G 0 0 (mm_Fm E qT_behindWords (mm_is (some (.int (nI (ed_fw (J 3) n k p)))) 86 J G))
  | 0, p, i, hk, hi, hp => by
    refine mm_iload rfl rfl ?_
    refine mm_iload_n rfl rfl ?_
    refine mm_icmp_geN (tgt := 81) rfl (by decide) (by omega) (by omega) (fun h8 => ?_) (fun h8 => ?_)
    · refine mm_iload_n rfl rfl ?_
      refine mm_ireturn rfl rfl rfl (by decide) (by decide) ?_
      exact ⟨rfl, rfl, rfl, rfl⟩
    · exact absurd h8 (by omega)
  | k + 1, p, i, hk, hi, hp => by
    refine mm_iload rfl rfl ?_
    refine mm_iload_n rfl rfl ?_
    refine mm_icmp_geN (tgt := 81) rfl (by decide) (by omega) (by omega) (fun h8 => ?_) (fun h8 => ?_)
    · exact absurd h8 (by omega)
    · have h1 := ed_up_le (ed_nlt (J 3)) (n - p) p
      have h2 := ed_up_le (ed_lt (J 3)) (n - ed_up (ed_nlt (J 3)) (n - p) p) (ed_up (ed_nlt (J 3)) (n - p) p)
      refine lT_bw1 hG hn hn2 (n - p) p i _ rfl hp ?_
      refine lT_bw2 hG hn hn2 (n - ed_up (ed_nlt (J 3)) (n - p) p) _ i _ rfl (by omega) ?_
      refine mm_iincN rfl rfl (mm_inc1 _) (by decide) ?_
      refine mm_goto (tgt := 5) rfl (by decide) ?_
      exact lT_behindWords hG hn hn2 hl k _ (i + 1) (by omega) (by omega) (by omega)
set_option maxRecDepth 100000 in
set_option maxHeartbeats 4000000 in
theorem sT_behindWords {E : mm_E} {G : mm_G} {J : mm_J} (hG : mm_GI G) {n : Nat} (hn : J 2 1 = nI n) (hn2 : n ≤ 100) {p l : Nat} (hl : l ≤ 9) (hp : p ≤ n) : mm_Ret E qT_behindWords [.ref 1, .int (nI p), .int (nI l)] 86 J G (some (.int (nI (ed_fw (J 3) n l p)))) 86 J G := by
  refine mm_Met.of qT_behindWords_ok (by decide) (mm_cats rfl) (Nat.le_of_ble_eq_true rfl) ?_
  refine mm_iload_n rfl rfl ?_
  refine mm_istore_n rfl (by decide) ?_
  refine mm_iconst (v := nI 0) rfl (by decide) ?_
  refine mm_istore rfl (by decide) ?_
  exact lT_behindWords hG hn hn2 hl l p 0 rfl (by omega) hp
set_option maxRecDepth 100000 in
set_option maxHeartbeats 4000000 in
theorem lT_fw1 {E : mm_E} {G : mm_G} {J : mm_J} (hG : mm_GI G) {p0 l : Nat} : ∀ (p i : Nat) (F : mm_F), p ≤ 100 → (kk : mm_Go E qT_beforeWords 38 [some (.ref 1), some (.int (nI p0)), some (.int (nI l)), some (.int (nI (ed_dn (ed_nlt (J 3)) p))), some (.int (nI i))] [] 86 J G 0 0 F) → mm_Go E qT_beforeWords 11 [some (.ref 1), some (.int (nI p0)), some (.int (nI l)), some (.int (nI p)), some (.int (nI i))] [] 86 J G 0 0 F
  | 0, i, F, hp, kk => by
    refine mm_iload_n rfl rfl ?_
    refine mm_if_leN (tgt := 38) rfl (by decide) (by omega) (fun h12 => ?_) (fun h12 => ?_)
    · exact kk
    · exact absurd h12 (by omega)
  | p + 1, i, F, hp, kk => by
    refine mm_iload_n rfl rfl ?_
    refine mm_if_leN (tgt := 38) rfl (by decide) (by omega) (fun h12 => ?_) (fun h12 => ?_)
    · exact absurd h12 (by omega)
    · refine mm_aload_n rfl rfl ?_
      refine mm_getR rfl rfl rfl (by decide) rfl (mm_gi hG 1 0 2 (by decide)) ?_
      refine mm_getR rfl rfl rfl (by decide) rfl (mm_gi hG 2 0 3 (by decide)) ?_
      refine mm_iload_n rfl rfl ?_
      refine mm_iconst (v := nI 1) rfl (by decide) ?_
      refine mm_isubN rfl (by omega) ?_
      refine mm_rdN rfl (by decide) rfl (by decide) (by omega) (by decide) rfl rfl ?_
      refine mm_isN1 (M2 := qE_isLetter) (fun _ h => h.2) qE_isLetter_k (by decide) sE_isLetter (Nat.le_of_ble_eq_true rfl) (by decide) (by decide) rfl (by decide) ?_
      refine mm_if_neN (tgt := 38) rfl (by decide) (ed_b31 _) (fun h29 => ?_) (fun h29 => ?_)
      · rw [ed_dn_n (q := ed_nlt (J 3)) (p := p) (ed_nlt_n (ed_bne h29))] at kk
        exact kk
      · refine mm_iincN rfl rfl (mm_dec1 (by omega)) (by decide) ?_
        refine mm_goto (tgt := 11) rfl (by decide) ?_
        rw [ed_dn_y (q := ed_nlt (J 3)) (p := p) (ed_nlt_y (ed_beq h29))] at kk
        exact lT_fw1 hG p i F (by omega) kk
set_option maxRecDepth 100000 in
set_option maxHeartbeats 4000000 in
theorem lT_fw2 {E : mm_E} {G : mm_G} {J : mm_J} (hG : mm_GI G) {p0 l : Nat} : ∀ (p i : Nat) (F : mm_F), p ≤ 100 → (kk : mm_Go E qT_beforeWords 65 [some (.ref 1), some (.int (nI p0)), some (.int (nI l)), some (.int (nI (ed_dn (ed_lt (J 3)) p))), some (.int (nI i))] [] 86 J G 0 0 F) → mm_Go E qT_beforeWords 38 [some (.ref 1), some (.int (nI p0)), some (.int (nI l)), some (.int (nI p)), some (.int (nI i))] [] 86 J G 0 0 F
  | 0, i, F, hp, kk => by
    refine mm_iload_n rfl rfl ?_
    refine mm_if_leN (tgt := 65) rfl (by decide) (by omega) (fun h39 => ?_) (fun h39 => ?_)
    · exact kk
    · exact absurd h39 (by omega)
  | p + 1, i, F, hp, kk => by
    refine mm_iload_n rfl rfl ?_
    refine mm_if_leN (tgt := 65) rfl (by decide) (by omega) (fun h39 => ?_) (fun h39 => ?_)
    · exact absurd h39 (by omega)
    · refine mm_aload_n rfl rfl ?_
      refine mm_getR rfl rfl rfl (by decide) rfl (mm_gi hG 1 0 2 (by decide)) ?_
      refine mm_getR rfl rfl rfl (by decide) rfl (mm_gi hG 2 0 3 (by decide)) ?_
      refine mm_iload_n rfl rfl ?_
      refine mm_iconst (v := nI 1) rfl (by decide) ?_
      refine mm_isubN rfl (by omega) ?_
      refine mm_rdN rfl (by decide) rfl (by decide) (by omega) (by decide) rfl rfl ?_
      refine mm_isN1 (M2 := qE_isLetter) (fun _ h => h.2) qE_isLetter_k (by decide) sE_isLetter (Nat.le_of_ble_eq_true rfl) (by decide) (by decide) rfl (by decide) ?_
      refine mm_if_eqN (tgt := 65) rfl (by decide) (ed_b31 _) (fun h56 => ?_) (fun h56 => ?_)
      · rw [ed_dn_n (q := ed_lt (J 3)) (p := p) (ed_beq h56)] at kk
        exact kk
      · refine mm_iincN rfl rfl (mm_dec1 (by omega)) (by decide) ?_
        refine mm_goto (tgt := 38) rfl (by decide) ?_
        rw [ed_dn_y (q := ed_lt (J 3)) (p := p) (ed_bne h56)] at kk
        exact lT_fw2 hG p i F (by omega) kk
set_option maxRecDepth 100000 in
set_option maxHeartbeats 4000000 in
theorem lT_beforeWords {E : mm_E} {G : mm_G} {J : mm_J} (hG : mm_GI G) {p0 l : Nat} (hl : l ≤ 9) : ∀ (k p i : Nat), l - i = k → i ≤ l → p ≤ 100 → mm_Go E qT_beforeWords 5 [some (.ref 1), some (.int (nI p0)), some (.int (nI l)), some (.int (nI p)), some (.int (nI i))] [] 86 J G 0 0 (mm_Fm E qT_beforeWords (mm_is (some (.int (nI (ed_bw (J 3) k p)))) 86 J G))
  | 0, p, i, hk, hi, hp => by
    refine mm_iload rfl rfl ?_
    refine mm_iload_n rfl rfl ?_
    refine mm_icmp_geN (tgt := 71) rfl (by decide) (by omega) (by omega) (fun h8 => ?_) (fun h8 => ?_)
    · refine mm_iload_n rfl rfl ?_
      refine mm_ireturn rfl rfl rfl (by decide) (by decide) ?_
      exact ⟨rfl, rfl, rfl, rfl⟩
    · exact absurd h8 (by omega)
  | k + 1, p, i, hk, hi, hp => by
    refine mm_iload rfl rfl ?_
    refine mm_iload_n rfl rfl ?_
    refine mm_icmp_geN (tgt := 71) rfl (by decide) (by omega) (by omega) (fun h8 => ?_) (fun h8 => ?_)
    · exact absurd h8 (by omega)
    · have h1 := ed_dn_le (ed_nlt (J 3)) p
      have h2 := ed_dn_le (ed_lt (J 3)) (ed_dn (ed_nlt (J 3)) p)
      refine lT_fw1 hG p i _ hp ?_
      refine lT_fw2 hG _ i _ (by omega) ?_
      refine mm_iincN rfl rfl (mm_inc1 _) (by decide) ?_
      refine mm_goto (tgt := 5) rfl (by decide) ?_
      exact lT_beforeWords hG hl k _ (i + 1) (by omega) (by omega) (by omega)
set_option maxRecDepth 100000 in
set_option maxHeartbeats 4000000 in
theorem sT_beforeWords {E : mm_E} {G : mm_G} {J : mm_J} (hG : mm_GI G) {p l : Nat} (hl : l ≤ 9) (hp : p ≤ 100) : mm_Ret E qT_beforeWords [.ref 1, .int (nI p), .int (nI l)] 86 J G (some (.int (nI (ed_bw (J 3) l p)))) 86 J G := by
  refine mm_Met.of qT_beforeWords_ok (by decide) (mm_cats rfl) (Nat.le_of_ble_eq_true rfl) ?_
  refine mm_iload_n rfl rfl ?_
  refine mm_istore_n rfl (by decide) ?_
  refine mm_iconst (v := nI 0) rfl (by decide) ?_
  refine mm_istore rfl (by decide) ?_
  exact lT_beforeWords hG hl l p 0 rfl (by omega) hp
end
section
theorem ed_x20 : ∀ a, a < 20 → (0 : Int32) ≤ nI a ^^^ nI 20 := by decide +kernel
theorem mm_sy : ∀ k, k < 20 → mm_SH (20 + 2 * k) = .inl 2 := by decide
theorem ed_mod {m : Nat} : m % 20 < 20 := Nat.mod_lt _ (by decide)
theorem ed_k1 {m u : Nat} (hm : m < 2 ^ 30) (hu : u < 2 ^ 30) (h : m < u + 20) : ¬ nI u ≤ nI m - nI 20 := by
  rw [Int32.le_iff_toInt_le, pk_sub_toInt hm (by decide), nI_toInt (by omega)]
  omega
theorem ed_k2 {m u : Nat} (hm : m < 2 ^ 30) (hu : u < 2 ^ 30) (h : u + 20 ≤ m) : nI u ≤ nI m - nI 20 := by
  rw [Int32.le_iff_toInt_le, pk_sub_toInt hm (by decide), nI_toInt (by omega)]
  omega
/-- the places behind an edit, those below i done -/
def ed_pl (J : mm_J) (p d s i : Nat) : mm_J := fun a b => if a = 4 ∧ b < i then ed_pm (J 4 b) (J 5 b) p d s else J a b
theorem ed_pl_s (J : mm_J) (p d s i : Nat) : mm_set (ed_pl J p d s i) 4 i (ed_pm (J 4 i) (J 5 i) p d s) = ed_pl J p d s (i + 1) := by
  funext a b
  unfold mm_set ed_pl
  by_cases ha : a = 4
  · subst ha
    by_cases hb : b = i
    · subst hb
      simp
    · by_cases h : b < i
      · simp [hb, h, Nat.lt_succ_of_lt h]
      · simp [hb, h, show ¬ b < i + 1 by omega]
  · simp [ha]
theorem ed_pl_0 (J : mm_J) (p d s : Nat) : ed_pl J p d s 0 = J := by
  funext a b
  simp [ed_pl]
def ed_vp (o : Int32) : Prop := o = -2 ∨ ∃ m, m ≤ 100 ∧ o = nI m
def ed_vb (o : Int32) : Prop := ∃ m, m < 2 ∧ o = nI m
theorem mm_J_eq {E : mm_E} {M : mm_M} {pc : Nat} {lv : List (Option Value)} {st : List Value} {n : Nat} {J J2 : mm_J} {G : mm_G} {cs sl : Nat} {F : mm_F} (h : J = J2) (k : mm_Go E M pc lv st n J2 G cs sl F) : mm_Go E M pc lv st n J G cs sl F := h ▸ k
/-- an edit of the class's text: d characters behind p out, the s of cell x in -/
def ed_rp (J : mm_J) (x n p d s : Nat) : mm_J := ed_pl (mm_set (mm_cp (mm_cp J 3 3 (p + d) (p + s) (n - (p + d))) (x + 1) 3 0 p s) 2 1 (nI (n - d + s))) p d s 5
/-- a new step of the class's history -/
def ed_st (J : mm_J) (m p d s : Nat) : mm_J := mm_set (mm_cp (mm_set (mm_set (mm_set (mm_set J 16 3 (nI (m + 1))) 17 ((m + 1) % 20) (nI p)) 18 ((m + 1) % 20) (nI s)) (20 + 2 * ((m + 1) % 20)) 1 (nI 0)) 3 (20 + 2 * ((m + 1) % 20) + 1) p 0 d) (20 + 2 * ((m + 1) % 20)) 1 (nI d)
theorem mm_MetF {E : mm_E} {M : mm_M} {as : List Value} {n : Nat} {J : mm_J} {G : mm_G} {Post : mm_T} (hok : mm_ok M) (hpl : plainFor (mm_y M) = true) (hc : ∀ v ∈ as, v.category = 1) (hn : as.length ≤ mm_n M) (h : mm_Go E M 0 (as.map some ++ List.replicate (mm_n M - as.length) none) [] n J G 0 0 (mm_Fm E M Post)) : mm_Met E M as n J G Post := by
  unfold mm_Met Met
  refine MetFree.of_bodySF (code := mm_c M) (maxLocals := mm_n M) (ret := mm_r M) hpl ?_ ?_
  · intro args s m h hn
    obtain ⟨meth, c, h1, h2, h3, h4, h5, h6, -, -⟩ := Cond.code_spec hn (atoms_spec (ws := mm_w M) h _ List.mem_cons_self)
    exact ⟨meth, c, h1, h2, h3, h4, h5, h6⟩
  · intro p e s m a below meth c s₁ B hml hv _
    have hh0 : s₁.heap = s.heap := by rw [B.state]; rfl
    obtain ⟨rfl, hW, hK⟩ := hv
    have K := h p e s m _ below meth c s.heap [] _ ⟨B.exec, B.bytes, B.returns, hml, findClass_of_methodNamed B.named, B.notSynchronized, fun w hw => atoms_spec (ws := mm_w M) B.pre w (List.mem_cons_of_mem _ hw), (name_of_methodNamed B.named B.method).1, hK, by rw [hW.1]; omega, hok⟩ trivial (mm_L.entry as hc hn) hW va_S.rf
    rw [lg_entry_eq]
    obtain ⟨t, a1, o, b1, b2, b3⟩ := K s₁ hh0 (Stand.of_body B)
    exact ⟨t, o, a1, b1, b2, ⟨b3.1, b3.2⟩⟩
theorem ed_xm (m : Nat) (hm : m < 2 ^ 31) : (0 : Int32) ≤ nI m ^^^ nI 20 := by
  rw [Int32.le_iff_toInt_le]
  have e : (nI m ^^^ nI 20).toBitVec = BitVec.ofNat 32 m ^^^ BitVec.ofNat 32 20 := rfl
  have h1 : (nI m ^^^ nI 20).toBitVec.msb = false := by
    rw [e, BitVec.msb_xor]
    have a1 : (BitVec.ofNat 32 m).msb = false := by
      rw [BitVec.msb_eq_false_iff_two_mul_lt, BitVec.toNat_ofNat]
      omega
    rw [a1]
    rfl
  show (0 : Int32).toInt ≤ (nI m ^^^ nI 20).toBitVec.toInt
  rw [BitVec.toInt_eq_toNat_of_msb h1]
  exact Int.natCast_nonneg _
set_option maxRecDepth 100000 in
set_option maxHeartbeats 4000000 in
theorem sJ_floorMod {E : mm_E} {G : mm_G} {J : mm_J} {m : Nat} (hm : m < 2 ^ 31) : mm_Ret E qJ_floorMod [.int (nI m), .int (nI 20)] 86 J G (some (.int (nI (m % 20)))) 86 J G := by
  refine mm_MetF qJ_floorMod_ok (by decide +kernel) (mm_cats rfl) (Nat.le_of_ble_eq_true rfl) ?_
  refine mm_iload_n rfl rfl ?_
  refine mm_iload_n rfl rfl ?_
  refine mm_iremN rfl (by omega) (by omega) (by omega) ?_
  refine mm_istore_n rfl (by decide) ?_
  refine mm_iload_n rfl rfl ?_
  refine mm_iload_n rfl rfl ?_
  refine mm_ixor rfl ?_
  refine mm_if_ge (tgt := 18) rfl (by decide) (fun h7 => ?_) (fun h7 => ?_)
  · refine mm_iload_n rfl rfl ?_
    refine mm_ireturn rfl rfl rfl (by decide) (by decide) ?_
    exact ⟨rfl, rfl, rfl, rfl⟩
  · exact absurd (ed_xm m hm) h7
set_option maxRecDepth 100000 in
set_option maxHeartbeats 4000000 in
theorem sH_slotOf {E : mm_E} {G : mm_G} {J : mm_J} {m : Nat} (hm : m < 2 ^ 31) : mm_Ret E qH_slotOf [.int (nI m)] 86 J G (some (.int (nI (m % 20)))) 86 J G := by
  refine mm_Met.of qH_slotOf_ok (by decide) (mm_cats rfl) (Nat.le_of_ble_eq_true rfl) ?_
  refine mm_iload_n rfl rfl ?_
  refine mm_bipush (v := nI 20) rfl (by decide) ?_
  refine mm_isS2 (M2 := qJ_floorMod) wd_237 qJ_floorMod_k (by decide) (sJ_floorMod hm) (Nat.le_of_ble_eq_true rfl) (by decide) (by decide) rfl (by decide) ?_
  refine mm_ireturn rfl rfl rfl (by decide) (by decide) ?_
  exact ⟨rfl, rfl, rfl, rfl⟩
set_option maxRecDepth 100000 in
set_option maxHeartbeats 4000000 in
theorem sH_latestPut {E : mm_E} {G : mm_G} {J : mm_J} (hG : mm_GI G) {m q : Nat} (hm : J 16 3 = nI m) (hm2 : m < 2 ^ 31) (hq : J 18 (m % 20) = nI q) : mm_Ret E qH_latestPut [.ref 16] 86 J G (some (.int (nI q))) 86 J G := by
  refine mm_Met.of qH_latestPut_ok (by decide) (mm_cats rfl) (Nat.le_of_ble_eq_true rfl) ?_
  refine mm_aload_n rfl rfl ?_
  refine mm_getR rfl rfl rfl (by decide) rfl (mm_gi hG 16 1 18 (by decide)) ?_
  refine mm_aload_n rfl rfl ?_
  refine mm_getI (x := nI m) rfl rfl rfl (by decide) rfl hm ?_
  refine mm_isS1 (M2 := qH_slotOf) wd_234 qH_slotOf_k (by decide) (sH_slotOf hm2) (Nat.le_of_ble_eq_true rfl) (by decide) (by decide) rfl (by decide) ?_
  refine mm_rdN rfl (by decide) rfl (by decide) ed_mod (by decide) rfl hq ?_
  refine mm_ireturn rfl rfl rfl (by decide) (by decide) ?_
  exact ⟨rfl, rfl, rfl, rfl⟩
set_option maxRecDepth 100000 in
set_option maxHeartbeats 4000000 in
theorem sH_keeps1 {E : mm_E} {G : mm_G} {J : mm_J} (hG : mm_GI G) {m u : Nat} (hm : J 16 3 = nI m) (hm2 : m < 2 ^ 30) (h1 : 1 ≤ u) (h2 : u ≤ m) (h3 : m < u + 20) : mm_Ret E qH_keeps [.ref 16, .int (nI u)] 86 J G (some (.int (nI 1))) 86 J G := by
  refine mm_Met.of qH_keeps_ok (by decide) (mm_cats rfl) (Nat.le_of_ble_eq_true rfl) ?_
  refine mm_iload_n rfl rfl ?_
  refine mm_iconst (v := nI 1) rfl (by decide) ?_
  refine mm_icmp_ltN (tgt := 28) rfl (by decide) (by omega) (by omega) (fun hh2 => ?_) (fun hh2 => ?_)
  · exact absurd hh2 (by omega)
  · refine mm_iload_n rfl rfl ?_
    refine mm_aload_n rfl rfl ?_
    refine mm_getI (x := nI m) rfl rfl rfl (by decide) rfl hm ?_
    refine mm_icmp_gtN (tgt := 28) rfl (by decide) (by omega) (by omega) (fun h10 => ?_) (fun h10 => ?_)
    · exact absurd h10 (by omega)
    · refine mm_iload_n rfl rfl ?_
      refine mm_aload_n rfl rfl ?_
      refine mm_getI (x := nI m) rfl rfl rfl (by decide) rfl hm ?_
      refine mm_bipush (v := nI 20) rfl (by decide) ?_
      refine mm_isub rfl ?_
      refine mm_icmp_le (tgt := 28) rfl (by decide) (fun h21 => ?_) (fun h21 => ?_)
      · exact absurd h21 (ed_k1 (by omega) (by omega) h3)
      · refine mm_iconst (v := nI 1) rfl (by decide) ?_
        refine mm_goto (tgt := 29) rfl (by decide) ?_
        refine mm_ireturn rfl rfl rfl (by decide) (by decide) ?_
        exact ⟨rfl, rfl, rfl, rfl⟩
set_option maxRecDepth 100000 in
set_option maxHeartbeats 4000000 in
theorem sH_keeps0 {E : mm_E} {G : mm_G} {J : mm_J} (hG : mm_GI G) {m u : Nat} (hm : J 16 3 = nI m) (hm2 : m < 2 ^ 30) (hu : u ≤ m) (h1 : u = 0 ∨ u + 20 ≤ m) : mm_Ret E qH_keeps [.ref 16, .int (nI u)] 86 J G (some (.int (nI 0))) 86 J G := by
  refine mm_Met.of qH_keeps_ok (by decide) (mm_cats rfl) (Nat.le_of_ble_eq_true rfl) ?_
  refine mm_iload_n rfl rfl ?_
  refine mm_iconst (v := nI 1) rfl (by decide) ?_
  refine mm_icmp_ltN (tgt := 28) rfl (by decide) (by omega) (by omega) (fun hh2 => ?_) (fun hh2 => ?_)
  · refine mm_iconst (v := nI 0) rfl (by decide) ?_
    refine mm_ireturn rfl rfl rfl (by decide) (by decide) ?_
    exact ⟨rfl, rfl, rfl, rfl⟩
  · refine mm_iload_n rfl rfl ?_
    refine mm_aload_n rfl rfl ?_
    refine mm_getI (x := nI m) rfl rfl rfl (by decide) rfl hm ?_
    refine mm_icmp_gtN (tgt := 28) rfl (by decide) (by omega) (by omega) (fun h10 => ?_) (fun h10 => ?_)
    · exact absurd h10 (by omega)
    · refine mm_iload_n rfl rfl ?_
      refine mm_aload_n rfl rfl ?_
      refine mm_getI (x := nI m) rfl rfl rfl (by decide) rfl hm ?_
      refine mm_bipush (v := nI 20) rfl (by decide) ?_
      refine mm_isub rfl ?_
      refine mm_icmp_le (tgt := 28) rfl (by decide) (fun h21 => ?_) (fun h21 => ?_)
      · refine mm_iconst (v := nI 0) rfl (by decide) ?_
        refine mm_ireturn rfl rfl rfl (by decide) (by decide) ?_
        exact ⟨rfl, rfl, rfl, rfl⟩
      · exact absurd (ed_k2 (by omega) (by omega) (by omega)) h21
set_option maxRecDepth 100000 in
set_option maxHeartbeats 4000000 in
theorem sT_takes1 {E : mm_E} {G : mm_G} {J : mm_J} (hG : mm_GI G) {x : Nat} (hx : mm_SH x = .inl 2) {n p d s : Nat} (hn : J 2 1 = nI n) (hn2 : n ≤ 100) (hs : J x 1 = nI s) (hs2 : s ≤ 100) (hpd : p + d ≤ n) (h : n - d + s ≤ 100) : mm_Ret E qT_takes [.ref 1, .int (nI p), .int (nI d), .ref x] 86 J G (some (.int (nI 1))) 86 J G := by
  refine mm_Met.of qT_takes_ok (by decide) (mm_cats rfl) (Nat.le_of_ble_eq_true rfl) ?_
  refine mm_iload_n rfl rfl ?_
  refine mm_if_ltN (tgt := 44) rfl (by decide) (by omega) ?_
  refine mm_iload_n rfl rfl ?_
  refine mm_if_ltN (tgt := 44) rfl (by decide) (by omega) ?_
  refine mm_iload_n rfl rfl ?_
  refine mm_iload_n rfl rfl ?_
  refine mm_iaddN rfl ?_
  refine mm_aload_n rfl rfl ?_
  refine mm_getR rfl rfl rfl (by decide) rfl (mm_gi hG 1 0 2 (by decide)) ?_
  refine mm_getI (x := nI n) rfl rfl rfl (by decide) rfl hn ?_
  refine mm_icmp_gtN (tgt := 44) rfl (by decide) (by omega) (by omega) (fun h18 => ?_) (fun h18 => ?_)
  · exact absurd h18 (by omega)
  · refine mm_aload_n rfl rfl ?_
    refine mm_getR rfl rfl rfl (by decide) rfl (mm_gi hG 1 0 2 (by decide)) ?_
    refine mm_getI (x := nI n) rfl rfl rfl (by decide) rfl hn ?_
    refine mm_iload_n rfl rfl ?_
    refine mm_isubN rfl (by omega) ?_
    refine mm_aload_n rfl rfl ?_
    refine mm_getI (x := nI s) rfl rfl hx (mm_l1 hx) rfl hs ?_
    refine mm_iaddN rfl ?_
    refine mm_bipush (v := nI 100) rfl (by decide) ?_
    refine mm_icmp_gtN (tgt := 44) rfl (by decide) (by omega) (by omega) (fun h37 => ?_) (fun h37 => ?_)
    · exact absurd h37 (by omega)
    · refine mm_iconst (v := nI 1) rfl (by decide) ?_
      refine mm_goto (tgt := 45) rfl (by decide) ?_
      refine mm_ireturn rfl rfl rfl (by decide) (by decide) ?_
      exact ⟨rfl, rfl, rfl, rfl⟩
set_option maxRecDepth 100000 in
set_option maxHeartbeats 4000000 in
theorem sT_takes0 {E : mm_E} {G : mm_G} {J : mm_J} (hG : mm_GI G) {x : Nat} (hx : mm_SH x = .inl 2) {n p d s : Nat} (hn : J 2 1 = nI n) (hn2 : n ≤ 100) (hs : J x 1 = nI s) (hs2 : s ≤ 100) (hpd : p + d ≤ n) (h : 100 < n - d + s) : mm_Ret E qT_takes [.ref 1, .int (nI p), .int (nI d), .ref x] 86 J G (some (.int (nI 0))) 86 J G := by
  refine mm_Met.of qT_takes_ok (by decide) (mm_cats rfl) (Nat.le_of_ble_eq_true rfl) ?_
  refine mm_iload_n rfl rfl ?_
  refine mm_if_ltN (tgt := 44) rfl (by decide) (by omega) ?_
  refine mm_iload_n rfl rfl ?_
  refine mm_if_ltN (tgt := 44) rfl (by decide) (by omega) ?_
  refine mm_iload_n rfl rfl ?_
  refine mm_iload_n rfl rfl ?_
  refine mm_iaddN rfl ?_
  refine mm_aload_n rfl rfl ?_
  refine mm_getR rfl rfl rfl (by decide) rfl (mm_gi hG 1 0 2 (by decide)) ?_
  refine mm_getI (x := nI n) rfl rfl rfl (by decide) rfl hn ?_
  refine mm_icmp_gtN (tgt := 44) rfl (by decide) (by omega) (by omega) (fun h18 => ?_) (fun h18 => ?_)
  · exact absurd h18 (by omega)
  · refine mm_aload_n rfl rfl ?_
    refine mm_getR rfl rfl rfl (by decide) rfl (mm_gi hG 1 0 2 (by decide)) ?_
    refine mm_getI (x := nI n) rfl rfl rfl (by decide) rfl hn ?_
    refine mm_iload_n rfl rfl ?_
    refine mm_isubN rfl (by omega) ?_
    refine mm_aload_n rfl rfl ?_
    refine mm_getI (x := nI s) rfl rfl hx (mm_l1 hx) rfl hs ?_
    refine mm_iaddN rfl ?_
    refine mm_bipush (v := nI 100) rfl (by decide) ?_
    refine mm_icmp_gtN (tgt := 44) rfl (by decide) (by omega) (by omega) (fun h37 => ?_) (fun h37 => ?_)
    · refine mm_iconst (v := nI 0) rfl (by decide) ?_
      refine mm_ireturn rfl rfl rfl (by decide) (by decide) ?_
      exact ⟨rfl, rfl, rfl, rfl⟩
    · exact absurd h37 (by omega)
set_option maxRecDepth 100000 in
set_option maxHeartbeats 4000000 in
theorem sT_moved1 {E : mm_E} {G : mm_G} {J : mm_J} {m fb p d s : Nat} (hm : m ≤ 100) (hfb : fb < 2) (hp : p + d ≤ 100) (hs : s ≤ 100) : mm_Ret E qT_moved [.int (nI m), .int (nI fb), .int (nI p), .int (nI d), .int (nI s)] 86 J G (some (.int (nI (ed_mv m fb p d s)))) 86 J G := by
  refine mm_Met.of qT_moved_ok (by decide) (mm_cats rfl) (Nat.le_of_ble_eq_true rfl) ?_
  refine mm_iload_n rfl rfl ?_
  refine mm_iload_n rfl rfl ?_
  refine mm_icmp_ltN (tgt := 18) rfl (by decide) (by omega) (by omega) (fun h2 => ?_) (fun h2 => ?_)
  · refine mm_iload_n rfl rfl ?_
    refine mm_ireturn rfl rfl rfl (by decide) (by decide) ?_
    exact ⟨by rw [show ed_mv m fb p d s = m from by unfold ed_mv; (repeat' split) <;> omega], rfl, rfl, rfl⟩
  · refine mm_iload_n rfl rfl ?_
    refine mm_iload_n rfl rfl ?_
    refine mm_icmp_neN (tgt := 20) rfl (by decide) (by omega) (by omega) (fun h7 => ?_) (fun h7 => ?_)
    · refine mm_iload_n rfl rfl ?_
      refine mm_iload_n rfl rfl ?_
      refine mm_icmp_leN (tgt := 34) rfl (by decide) (by omega) (by omega) (fun h22 => ?_) (fun h22 => ?_)
      · refine mm_iload_n rfl rfl ?_
        refine mm_iload rfl rfl ?_
        refine mm_iaddN rfl ?_
        refine mm_iload_n rfl rfl ?_
        refine mm_isubN rfl (by omega) ?_
        refine mm_ireturn rfl rfl rfl (by decide) (by decide) ?_
        exact ⟨by rw [show ed_mv m fb p d s = m + s - d from by unfold ed_mv; (repeat' split) <;> omega], rfl, rfl, rfl⟩
      · refine mm_iload_n rfl rfl ?_
        refine mm_iload_n rfl rfl ?_
        refine mm_iload_n rfl rfl ?_
        refine mm_iaddN rfl ?_
        refine mm_icmp_geN (tgt := 34) rfl (by decide) (by omega) (by omega) (fun h29 => ?_) (fun h29 => ?_)
        · refine mm_iload_n rfl rfl ?_
          refine mm_iload rfl rfl ?_
          refine mm_iaddN rfl ?_
          refine mm_iload_n rfl rfl ?_
          refine mm_isubN rfl (by omega) ?_
          refine mm_ireturn rfl rfl rfl (by decide) (by decide) ?_
          exact ⟨by rw [show ed_mv m fb p d s = m + s - d from by unfold ed_mv; (repeat' split) <;> omega], rfl, rfl, rfl⟩
        · refine mm_iload_n rfl rfl ?_
          refine mm_ireturn rfl rfl rfl (by decide) (by decide) ?_
          exact ⟨by rw [show ed_mv m fb p d s = p from by unfold ed_mv; (repeat' split) <;> omega], rfl, rfl, rfl⟩
    · refine mm_iload_n rfl rfl ?_
      refine mm_if_gtN (tgt := 18) rfl (by decide) (by omega) (fun h11 => ?_) (fun h11 => ?_)
      · refine mm_iload_n rfl rfl ?_
        refine mm_ireturn rfl rfl rfl (by decide) (by decide) ?_
        exact ⟨by rw [show ed_mv m fb p d s = m from by unfold ed_mv; (repeat' split) <;> omega], rfl, rfl, rfl⟩
      · refine mm_iload_n rfl rfl ?_
        refine mm_if_neN (tgt := 20) rfl (by decide) (by omega) (fun h15 => ?_) (fun h15 => ?_)
        · refine mm_iload_n rfl rfl ?_
          refine mm_iload_n rfl rfl ?_
          refine mm_icmp_leN (tgt := 34) rfl (by decide) (by omega) (by omega) (fun h22 => ?_) (fun h22 => ?_)
          · refine mm_iload_n rfl rfl ?_
            refine mm_iload rfl rfl ?_
            refine mm_iaddN rfl ?_
            refine mm_iload_n rfl rfl ?_
            refine mm_isubN rfl (by omega) ?_
            refine mm_ireturn rfl rfl rfl (by decide) (by decide) ?_
            exact ⟨by rw [show ed_mv m fb p d s = m + s - d from by unfold ed_mv; (repeat' split) <;> omega], rfl, rfl, rfl⟩
          · refine mm_iload_n rfl rfl ?_
            refine mm_iload_n rfl rfl ?_
            refine mm_iload_n rfl rfl ?_
            refine mm_iaddN rfl ?_
            refine mm_icmp_geN (tgt := 34) rfl (by decide) (by omega) (by omega) (fun h29 => ?_) (fun h29 => ?_)
            · refine mm_iload_n rfl rfl ?_
              refine mm_iload rfl rfl ?_
              refine mm_iaddN rfl ?_
              refine mm_iload_n rfl rfl ?_
              refine mm_isubN rfl (by omega) ?_
              refine mm_ireturn rfl rfl rfl (by decide) (by decide) ?_
              exact ⟨by rw [show ed_mv m fb p d s = m + s - d from by unfold ed_mv; (repeat' split) <;> omega], rfl, rfl, rfl⟩
            · refine mm_iload_n rfl rfl ?_
              refine mm_ireturn rfl rfl rfl (by decide) (by decide) ?_
              exact ⟨by rw [show ed_mv m fb p d s = p from by unfold ed_mv; (repeat' split) <;> omega], rfl, rfl, rfl⟩
        · refine mm_iload_n rfl rfl ?_
          refine mm_ireturn rfl rfl rfl (by decide) (by decide) ?_
          exact ⟨by rw [show ed_mv m fb p d s = m from by unfold ed_mv; (repeat' split) <;> omega], rfl, rfl, rfl⟩
set_option maxRecDepth 100000 in
set_option maxHeartbeats 4000000 in
theorem sT_moved2 {E : mm_E} {G : mm_G} {J : mm_J} {p d s : Nat} {fo : Int32} (hp : p < 2 ^ 31) : mm_Ret E qT_moved [.int (-2), .int fo, .int (nI p), .int (nI d), .int (nI s)] 86 J G (some (.int (-2))) 86 J G := by
  refine mm_Met.of qT_moved_ok (by decide) (mm_cats rfl) (Nat.le_of_ble_eq_true rfl) ?_
  refine mm_iload_n rfl rfl ?_
  refine mm_iload_n rfl rfl ?_
  refine mm_icmp_lt (tgt := 18) rfl (by decide) (fun h2 => ?_) (fun h2 => ?_)
  · refine mm_iload_n rfl rfl ?_
    refine mm_ireturn rfl rfl rfl (by decide) (by decide) ?_
    exact ⟨rfl, rfl, rfl, rfl⟩
  · exact absurd (ed_m2 hp) h2
theorem sT_moved {E : mm_E} {G : mm_G} {J : mm_J} {o fo : Int32} {p d s : Nat} (ho : ed_vp o) (hf : ed_vb fo) (hp : p + d ≤ 100) (hs : s ≤ 100) : mm_Ret E qT_moved [.int o, .int fo, .int (nI p), .int (nI d), .int (nI s)] 86 J G (some (.int (ed_pm o fo p d s))) 86 J G := by
  rcases ho with rfl | ⟨m, hm, rfl⟩
  · exact sT_moved2 (by omega)
  · obtain ⟨fb, hfb, rfl⟩ := hf
    rw [show ed_pm (nI m) (nI fb) p d s = nI (ed_mv m fb p d s) from by
      unfold ed_pm
      rw [if_neg (ed_m2n (by omega)), nI_clamp (by omega), nI_clamp (by omega)]]
    exact sT_moved1 hm hfb hp hs
set_option maxRecDepth 100000 in
set_option maxHeartbeats 4000000 in
theorem lT_replace {E : mm_E} {G : mm_G} {J : mm_J} (hG : mm_GI G) {x : Nat} (hx : mm_SH x = .inl 2) (hx4 : ¬ x = 4) {p d s : Nat} {gr : Int32} (hs : J x 1 = nI s) (hs2 : s ≤ 100) (hpd : p + d ≤ 100) (hpl : ∀ i, i < 5 → ed_vp (J 4 i)) (hfo : ∀ i, i < 5 → ed_vb (J 5 i)) : ∀ (k i : Nat), 5 - i = k → i ≤ 5 → mm_Go E qT_replace 84 [some (.ref 1), some (.int (nI p)), some (.int (nI d)), some (.ref x), some (.int (nI (p + d))), some (.int gr), some (.int (nI i))] [] 86 (ed_pl J p d s i) G 0 0 (mm_Fm E qT_replace (mm_is none 86 (ed_pl J p d s 5) G))
  | 0, i, hk, hi => by
    refine mm_iload rfl rfl ?_
    refine mm_aload_n rfl rfl ?_
    refine mm_getR rfl rfl rfl (by decide) rfl (mm_gi hG 1 1 4 (by decide)) ?_
    refine mm_len (v := nI 5) rfl (by decide) (by decide) rfl rfl ?_
    refine mm_icmp_geN (tgt := 130) rfl (by decide) (by omega) (by omega) (fun h91 => ?_) (fun h91 => ?_)
    · refine mm_return rfl rfl (by decide) (by decide) ?_
      exact ⟨rfl, rfl, by rw [show i = 5 by omega], rfl⟩
    · exact absurd h91 (by omega)
  | k + 1, i, hk, hi => by
    refine mm_iload rfl rfl ?_
    refine mm_aload_n rfl rfl ?_
    refine mm_getR rfl rfl rfl (by decide) rfl (mm_gi hG 1 1 4 (by decide)) ?_
    refine mm_len (v := nI 5) rfl (by decide) (by decide) rfl rfl ?_
    refine mm_icmp_geN (tgt := 130) rfl (by decide) (by omega) (by omega) (fun h91 => ?_) (fun h91 => ?_)
    · exact absurd h91 (by omega)
    · refine mm_aload_n rfl rfl ?_
      refine mm_getR rfl rfl rfl (by decide) rfl (mm_gi hG 1 1 4 (by decide)) ?_
      refine mm_iload rfl rfl ?_
      refine mm_aload_n rfl rfl ?_
      refine mm_getR rfl rfl rfl (by decide) rfl (mm_gi hG 1 1 4 (by decide)) ?_
      refine mm_iload rfl rfl ?_
      refine mm_rdN (x := J 4 i) rfl (by decide) rfl (by decide) (by omega) (by decide) rfl (by simp [ed_pl]) ?_
      refine mm_aload_n rfl rfl ?_
      refine mm_getR rfl rfl rfl (by decide) rfl (mm_gi hG 1 2 5 (by decide)) ?_
      refine mm_iload rfl rfl ?_
      refine mm_rzN (x := J 5 i) rfl (by decide) rfl (by decide) (by omega) (by decide) rfl (by simp [ed_pl]) ?_
      refine mm_iload_n rfl rfl ?_
      refine mm_iload_n rfl rfl ?_
      refine mm_aload_n rfl rfl ?_
      refine mm_getI (x := nI s) rfl rfl hx (mm_l1 hx) rfl (by simp [ed_pl, hx4, hs]) ?_
      refine mm_isS5 (M2 := qT_moved) wd_261 qT_moved_k (by decide) (sT_moved (hpl i (by omega)) (hfo i (by omega)) hpd hs2) (Nat.le_of_ble_eq_true rfl) (by decide) (by decide) rfl (by decide) ?_
      refine mm_wrN rfl (by decide) rfl (by decide) (by omega) (by decide) rfl ?_
      refine mm_iincN rfl rfl (mm_inc1 _) (by decide) ?_
      refine mm_goto (tgt := 84) rfl (by decide) ?_
      rw [ed_pl_s]
      exact lT_replace hG hx hx4 hs hs2 hpd hpl hfo k (i + 1) (by omega) (by omega)
set_option maxRecDepth 100000 in
set_option maxHeartbeats 4000000 in
theorem sT_replace {E : mm_E} {G : mm_G} {J : mm_J} (hG : mm_GI G) {x : Nat} (hx : mm_SH x = .inl 2) (hx6 : 6 ≤ x) {n p d s : Nat} (hn : J 2 1 = nI n) (hn2 : n ≤ 100) (hs : J x 1 = nI s) (hs2 : s ≤ 100) (hpd : p + d ≤ n) (hs3 : n - d + s ≤ 100) (hpl : ∀ i, i < 5 → ed_vp (J 4 i)) (hfo : ∀ i, i < 5 → ed_vb (J 5 i)) : mm_Ret E qT_replace [.ref 1, .int (nI p), .int (nI d), .ref x] 86 J G none 86 (ed_rp J x n p d s) G := by
  refine mm_Met.of qT_replace_ok (by decide) (mm_cats rfl) (Nat.le_of_ble_eq_true rfl) ?_
  refine mm_iload_n rfl rfl ?_
  refine mm_iload_n rfl rfl ?_
  refine mm_iaddN rfl ?_
  refine mm_istore rfl (by decide) ?_
  refine mm_aload_n rfl rfl ?_
  refine mm_getI (x := nI s) rfl rfl hx (mm_l1 hx) rfl hs ?_
  refine mm_iload_n rfl rfl ?_
  refine mm_isub rfl ?_
  refine mm_istore rfl (by decide) ?_
  refine mm_aload_n rfl rfl ?_
  refine mm_getR rfl rfl rfl (by decide) rfl (mm_gi hG 1 0 2 (by decide)) ?_
  refine mm_getR rfl rfl rfl (by decide) rfl (mm_gi hG 2 0 3 (by decide)) ?_
  refine mm_iload rfl rfl ?_
  refine mm_aload_n rfl rfl ?_
  refine mm_getR rfl rfl rfl (by decide) rfl (mm_gi hG 1 0 2 (by decide)) ?_
  refine mm_getR rfl rfl rfl (by decide) rfl (mm_gi hG 2 0 3 (by decide)) ?_
  refine mm_iload rfl rfl ?_
  refine mm_iload rfl rfl ?_
  refine mm_iadd rfl ?_
  rw [ed_gr (by omega), show p + d - d + s = p + s by omega]
  refine mm_aload_n rfl rfl ?_
  refine mm_getR rfl rfl rfl (by decide) rfl (mm_gi hG 1 0 2 (by decide)) ?_
  refine mm_getI (x := nI n) rfl rfl rfl (by decide) rfl hn ?_
  refine mm_iload rfl rfl ?_
  refine mm_isubN rfl (by omega) ?_
  refine mm_copy rfl wd_260 wd_255 wd_254 wd_11 rfl rfl (by decide) rfl (by decide) (by decide) (nI_pos (by omega)) (nI_pos (by omega)) (nI_pos (by omega)) (by rw [nI_clamp (by omega), nI_clamp (by omega)]; omega) (by rw [nI_clamp (by omega), nI_clamp (by omega)]; omega) (by decide) (Nat.le_of_ble_eq_true rfl) ?_
  rw [nI_clamp (by omega), nI_clamp (by omega), nI_clamp (by omega)]
  refine mm_aload_n rfl rfl ?_
  refine mm_getR rfl rfl hx (mm_l1 hx) rfl (hG.1 _ hx) ?_
  refine mm_iconst (v := nI 0) rfl (by decide) ?_
  refine mm_aload_n rfl rfl ?_
  refine mm_getR rfl rfl rfl (by decide) rfl (mm_gi hG 1 0 2 (by decide)) ?_
  refine mm_getR rfl rfl rfl (by decide) rfl (mm_gi hG 2 0 3 (by decide)) ?_
  refine mm_iload_n rfl rfl ?_
  refine mm_aload_n rfl rfl ?_
  refine mm_getI (x := nI s) rfl rfl hx (mm_l1 hx) rfl (by simp [mm_set, mm_cp, hs, show ¬ x = 2 by omega, show ¬ x = 3 by omega, show ¬ x = 4 by omega]) ?_
  refine mm_copy rfl wd_260 wd_255 wd_254 wd_11 (mm_l2 hx) rfl (by decide) rfl (mm_l3 hx) (by decide) (nI_pos (by omega)) (nI_pos (by omega)) (nI_pos (by omega)) (by rw [nI_clamp (by omega), nI_clamp (by omega)]; omega) (by rw [nI_clamp (by omega), nI_clamp (by omega)]; omega) (by decide) (Nat.le_of_ble_eq_true rfl) ?_
  rw [nI_clamp (by omega), nI_clamp (by omega), nI_clamp (by omega)]
  refine mm_aload_n rfl rfl ?_
  refine mm_getR rfl rfl rfl (by decide) rfl (mm_gi hG 1 0 2 (by decide)) ?_
  refine mm_dup rfl rfl ?_
  refine mm_getI (x := nI n) rfl rfl rfl (by decide) rfl (by simp [mm_set, mm_cp, hn]) ?_
  refine mm_iload rfl rfl ?_
  refine mm_iadd rfl ?_
  rw [ed_gr (by omega)]
  refine mm_putI rfl rfl rfl (by decide) rfl (Or.inl rfl) rfl rfl ?_
  refine mm_iconst (v := nI 0) rfl (by decide) ?_
  refine mm_istore rfl (by decide) ?_
  refine mm_J_eq (ed_pl_0 _ p d s).symm ?_
  exact lT_replace (p := p) (d := d) (s := s) (J := mm_set (mm_cp (mm_cp J 3 3 (p + d) (p + s) (n - (p + d))) (x + 1) 3 0 p s) 2 1 (nI (n - d + s))) hG hx (by omega) (by simp [mm_set, mm_cp, hs, show ¬ x = 2 by omega, show ¬ x = 3 by omega, show ¬ x = 4 by omega]) hs2 (by omega) (fun i hi => hpl i hi) (fun i hi => hfo i hi) 5 0 rfl (by omega)
end
section
theorem ed_st_o {J : mm_J} {m p d s a b : Nat} (h : ¬ a = 16 ∧ ¬ a = 17 ∧ ¬ a = 18 ∧ ¬ (20 ≤ a ∧ a < 60)) : ed_st J m p d s a b = J a b := by
  have hk : (m + 1) % 20 < 20 := ed_mod
  unfold ed_st
  generalize (m + 1) % 20 = k at hk ⊢
  simp [mm_set, mm_cp, h.1, h.2.1, h.2.2.1, show ¬ a = 20 + 2 * k by omega, show ¬ a = 20 + 2 * k + 1 by omega]
theorem mm_GI_sg {G : mm_G} {i : Nat} {v : Option Nat} (h : mm_GI G) : mm_GI (mm_sg G 7 i v) := by
  refine ⟨fun x hx => ?_, fun k hk => ?_, fun q hq => ?_⟩
  · have : ¬ x = 7 := fun e => by subst e; exact absurd hx (by decide)
    simp [mm_sg, this, h.1 x hx]
  · simp [mm_sg, h.2.1 k hk]
  · have : ∀ q ∈ mm_lkL, ¬ q.1 = 7 := by decide
    simp [mm_sg, this q hq, h.2.2 q hq]
theorem ed_nb {b : Nat} (h : b < 2) : narrow .boolean (.int (nI b)) = .int (nI b) := by
  rcases (show b = 0 ∨ b = 1 by omega) with rfl | rfl <;> rfl
def ed_at (f g : Nat → Int32) (p l : Nat) : Bool := decide (∀ i, i < l → f (p + i) = g i)
set_option maxRecDepth 100000 in
set_option maxHeartbeats 4000000 in
theorem sH_edit0 {E : mm_E} {G : mm_G} {J : mm_J} (hG : mm_GI G) {x : Nat} (hx : mm_SH x = .inl 2) {n p d s : Nat} (hn : J 2 1 = nI n) (hn2 : n ≤ 100) (hs : J x 1 = nI s) (hs2 : s ≤ 100) (hpd : p + d ≤ n) {jo : Nat} (h : 100 < n - d + s) : mm_Ret E qH_edit [.ref 16, .ref 1, .int (nI p), .int (nI d), .ref x, .int (nI jo)] 86 J G (some (.int (-3))) 86 J G := by
  refine mm_Met.of qH_edit_ok (by decide) (mm_cats rfl) (Nat.le_of_ble_eq_true rfl) ?_
  refine mm_aload_n rfl rfl ?_
  refine mm_iload_n rfl rfl ?_
  refine mm_iload_n rfl rfl ?_
  refine mm_aload rfl rfl ?_
  refine mm_isV3 (M2 := qT_takes) wd_244 qT_takes_k (by decide) (sT_takes0 hG hx hn hn2 hs hs2 hpd h) rfl (by decide) (Nat.le_of_ble_eq_true rfl) (by decide) (by decide) rfl (by decide) ?_
  refine mm_if_neN (tgt := 14) rfl (by decide) (by omega) (fun h8 => ?_) (fun h8 => ?_)
  · exact absurd rfl h8
  · refine mm_bipush (v := -3) rfl (by decide) ?_
    refine mm_ireturn rfl rfl rfl (by decide) (by decide) ?_
    exact ⟨rfl, rfl, rfl, rfl⟩
set_option maxRecDepth 100000 in
set_option maxHeartbeats 4000000 in
theorem sH_edit1 {E : mm_E} {G : mm_G} {J : mm_J} (hG : mm_GI G) {x : Nat} (hx : mm_SH x = .inl 2) {n p d s : Nat} (hn : J 2 1 = nI n) (hn2 : n ≤ 100) (hs : J x 1 = nI s) (hs2 : s ≤ 100) (hpd : p + d ≤ n) (hxr : 6 ≤ x ∧ ¬ (16 ≤ x ∧ x < 60)) (hs3 : n - d + s ≤ 100) (hpl : ∀ i, i < 5 → ed_vp (J 4 i)) (hfo : ∀ i, i < 5 → ed_vb (J 5 i)) {m : Nat} (hm : J 16 3 = nI m) (hm2 : m < 2 ^ 30) : mm_Ret E qH_edit [.ref 16, .ref 1, .int (nI p), .int (nI d), .ref x, .int (nI 0)] 86 J G (some (.int (nI 0))) 86 (ed_rp (ed_st J m p d s) x n p d s) G := by
  refine mm_Met.of qH_edit_ok (by decide) (mm_cats rfl) (Nat.le_of_ble_eq_true rfl) ?_
  refine mm_aload_n rfl rfl ?_
  refine mm_iload_n rfl rfl ?_
  refine mm_iload_n rfl rfl ?_
  refine mm_aload rfl rfl ?_
  refine mm_isV3 (M2 := qT_takes) wd_244 qT_takes_k (by decide) (sT_takes1 hG hx hn hn2 hs hs2 hpd hs3) rfl (by decide) (Nat.le_of_ble_eq_true rfl) (by decide) (by decide) rfl (by decide) ?_
  refine mm_if_neN (tgt := 14) rfl (by decide) (by omega) (fun h8 => ?_) (fun h8 => ?_)
  · refine mm_iload rfl rfl ?_
    refine mm_if_eqN (tgt := 42) rfl (by decide) (by omega) (fun h16 => ?_) (fun h16 => ?_)
    · refine mm_aload_n rfl rfl ?_
      refine mm_dup rfl rfl ?_
      refine mm_getI (x := nI m) rfl rfl rfl (by decide) rfl hm ?_
      refine mm_iconst (v := nI 1) rfl (by decide) ?_
      refine mm_iaddN rfl ?_
      refine mm_putI rfl rfl rfl (by decide) rfl (Or.inl rfl) rfl rfl ?_
      refine mm_aload_n rfl rfl ?_
      refine mm_getI (x := nI (m + 1)) rfl rfl rfl (by decide) rfl (by simp [mm_set]) ?_
      refine mm_isS1 (M2 := qH_slotOf) wd_234 qH_slotOf_k (by decide) (sH_slotOf (by omega)) (Nat.le_of_ble_eq_true rfl) (by decide) (by decide) rfl (by decide) ?_
      refine mm_istore rfl (by decide) ?_
      refine mm_aload_n rfl rfl ?_
      refine mm_getR rfl rfl rfl (by decide) rfl (mm_gi hG 16 0 17 (by decide)) ?_
      refine mm_iload rfl rfl ?_
      refine mm_iload_n rfl rfl ?_
      refine mm_wrN rfl (by decide) rfl (by decide) ed_mod (by decide) rfl ?_
      refine mm_aload_n rfl rfl ?_
      refine mm_getR rfl rfl rfl (by decide) rfl (mm_gi hG 16 1 18 (by decide)) ?_
      refine mm_iload rfl rfl ?_
      refine mm_aload rfl rfl ?_
      refine mm_getI (x := nI s) rfl rfl hx (mm_l1 hx) rfl (by simp [mm_set, mm_cp, hs, show ¬ x = 16 by omega, show ¬ x = 17 by omega, show ¬ x = 18 by omega]) ?_
      refine mm_wrN rfl (by decide) rfl (by decide) ed_mod (by decide) rfl ?_
      refine mm_aload_n rfl rfl ?_
      refine mm_getR rfl rfl rfl (by decide) rfl (mm_gi hG 16 2 19 (by decide)) ?_
      refine mm_iload rfl rfl ?_
      refine mm_rrN rfl (by decide) rfl rfl (by decide) ed_mod (by decide) (hG.2.1 _ ed_mod) rfl ?_
      refine mm_isV0 (M2 := qL_clear) wd_248 qL_clear_k (by decide) (sL_clear hG (mm_sy _ ed_mod)) (mm_sy _ ed_mod) (mm_l1 (mm_sy _ ed_mod)) (Nat.le_of_ble_eq_true rfl) (by decide) (by decide) rfl (by decide) ?_
      refine mm_aload_n rfl rfl ?_
      refine mm_getR rfl rfl rfl (by decide) rfl (mm_gi hG 16 2 19 (by decide)) ?_
      refine mm_iload rfl rfl ?_
      refine mm_rrN rfl (by decide) rfl rfl (by decide) ed_mod (by decide) (hG.2.1 _ ed_mod) rfl ?_
      refine mm_aload_n rfl rfl ?_
      refine mm_getR rfl rfl rfl (by decide) rfl (mm_gi hG 1 0 2 (by decide)) ?_
      refine mm_iload_n rfl rfl ?_
      refine mm_iload_n rfl rfl ?_
      refine mm_iload_n rfl rfl ?_
      refine mm_iaddN rfl ?_
      have hk20 : (m + 1) % 20 < 20 := ed_mod
      refine mm_isV3 (M2 := qL_append) wd_249 qL_append_k (by decide) (sL_append (y := 2) (k := 0) (m := n) hG (mm_sy _ ed_mod) rfl (by omega) (by simp [mm_set]) (by simp [mm_set, hn, show ¬ 2 = 20 + 2 * ((m + 1) % 20) by omega]) (by omega) hpd hn2 (by omega)) (mm_sy _ ed_mod) (mm_l1 (mm_sy _ ed_mod)) (Nat.le_of_ble_eq_true rfl) (by decide) (by decide) rfl (by decide) ?_
      rw [show p + d - p = d by omega, Nat.zero_add]
      refine mm_aload_n rfl rfl ?_
      refine mm_iload_n rfl rfl ?_
      refine mm_iload_n rfl rfl ?_
      refine mm_aload rfl rfl ?_
      refine mm_isV3 (M2 := qT_replace) wd_256 qT_replace_k (by decide) (sT_replace (J := ed_st J m p d s) hG hx hxr.1 ((ed_st_o (by omega)).trans hn) hn2 ((ed_st_o (by omega)).trans hs) hs2 hpd hs3 (fun i hi => by rw [ed_st_o (by omega)]; exact hpl i hi) (fun i hi => by rw [ed_st_o (by omega)]; exact hfo i hi)) rfl (by decide) (Nat.le_of_ble_eq_true rfl) (by decide) (by decide) rfl (by decide) ?_
      refine mm_iconst (v := nI 0) rfl (by decide) ?_
      refine mm_ireturn rfl rfl rfl (by decide) (by decide) ?_
      exact ⟨rfl, rfl, rfl, rfl⟩
    · exact absurd rfl h16
  · exact absurd h8 (by decide)
set_option maxRecDepth 100000 in
set_option maxHeartbeats 4000000 in
theorem sH_edit2 {E : mm_E} {G : mm_G} {J : mm_J} (hG : mm_GI G) {x : Nat} (hx : mm_SH x = .inl 2) {n p d s : Nat} (hn : J 2 1 = nI n) (hn2 : n ≤ 100) (hs : J x 1 = nI s) (hs2 : s ≤ 100) (hpd : p + d ≤ n) (hxr : 6 ≤ x ∧ ¬ (16 ≤ x ∧ x < 60)) (hs3 : n - d + s ≤ 100) (hpl : ∀ i, i < 5 → ed_vp (J 4 i)) (hfo : ∀ i, i < 5 → ed_vb (J 5 i)) {m : Nat} (hm : J 16 3 = nI m) (hm2 : m < 2 ^ 30) {q : Nat} (hq : J 18 (m % 20) = nI q) : mm_Ret E qH_edit [.ref 16, .ref 1, .int (nI p), .int (nI d), .ref x, .int (nI 1)] 86 J G (some (.int (nI 0))) 86 (ed_rp (mm_set J 18 (m % 20) (nI (q + s))) x n p d s) G := by
  refine mm_Met.of qH_edit_ok (by decide) (mm_cats rfl) (Nat.le_of_ble_eq_true rfl) ?_
  refine mm_aload_n rfl rfl ?_
  refine mm_iload_n rfl rfl ?_
  refine mm_iload_n rfl rfl ?_
  refine mm_aload rfl rfl ?_
  refine mm_isV3 (M2 := qT_takes) wd_244 qT_takes_k (by decide) (sT_takes1 hG hx hn hn2 hs hs2 hpd hs3) rfl (by decide) (Nat.le_of_ble_eq_true rfl) (by decide) (by decide) rfl (by decide) ?_
  refine mm_if_neN (tgt := 14) rfl (by decide) (by omega) (fun h8 => ?_) (fun h8 => ?_)
  · refine mm_iload rfl rfl ?_
    refine mm_if_eqN (tgt := 42) rfl (by decide) (by omega) (fun h16 => ?_) (fun h16 => ?_)
    · exact absurd h16 (by decide)
    · refine mm_aload_n rfl rfl ?_
      refine mm_getR rfl rfl rfl (by decide) rfl (mm_gi hG 16 1 18 (by decide)) ?_
      refine mm_aload_n rfl rfl ?_
      refine mm_getI (x := nI m) rfl rfl rfl (by decide) rfl hm ?_
      refine mm_isS1 (M2 := qH_slotOf) wd_234 qH_slotOf_k (by decide) (sH_slotOf (by omega)) (Nat.le_of_ble_eq_true rfl) (by decide) (by decide) rfl (by decide) ?_
      refine mm_dup2 rfl rfl rfl ?_
      refine mm_rdN rfl (by decide) rfl (by decide) ed_mod (by decide) rfl hq ?_
      refine mm_aload rfl rfl ?_
      refine mm_getI (x := nI s) rfl rfl hx (mm_l1 hx) rfl hs ?_
      refine mm_iaddN rfl ?_
      refine mm_wrN rfl (by decide) rfl (by decide) ed_mod (by decide) rfl ?_
      refine mm_goto (tgt := 109) rfl (by decide) ?_
      refine mm_aload_n rfl rfl ?_
      refine mm_iload_n rfl rfl ?_
      refine mm_iload_n rfl rfl ?_
      refine mm_aload rfl rfl ?_
      refine mm_isV3 (M2 := qT_replace) wd_256 qT_replace_k (by decide) (sT_replace (J := mm_set J 18 (m % 20) (nI (q + s))) hG hx hxr.1 (by simp [mm_set, hn]) hn2 (by simp [mm_set, hs, show ¬ x = 16 by omega, show ¬ x = 17 by omega, show ¬ x = 18 by omega]) hs2 hpd hs3 (fun i hi => by simpa [mm_set] using hpl i hi) (fun i hi => by simpa [mm_set] using hfo i hi)) rfl (by decide) (Nat.le_of_ble_eq_true rfl) (by decide) (by decide) rfl (by decide) ?_
      refine mm_iconst (v := nI 0) rfl (by decide) ?_
      refine mm_ireturn rfl rfl rfl (by decide) (by decide) ?_
      exact ⟨rfl, rfl, rfl, rfl⟩
  · exact absurd h8 (by decide)
set_option maxRecDepth 100000 in
set_option maxHeartbeats 4000000 in
theorem sK_makeNewest {E : mm_E} {G : mm_G} {J : mm_J} (hG : mm_GI G) {r0 r1 r2 r3 : Nat} (g0 : G 7 0 = some r0) (g1 : G 7 1 = some r1) (g2 : G 7 2 = some r2) (g3 : G 7 3 = some r3) (e0 : mm_SH r0 = .inl 2) (e1 : mm_SH r1 = .inl 2) (e2 : mm_SH r2 = .inl 2) (e3 : mm_SH r3 = .inl 2) (h6 : 8 ≤ r3) {c : Nat} (hc : J 6 1 = nI c) (hc2 : c ≤ 4) : mm_Ret E qK_makeNewest [.ref 6] 86 J G none 86 (mm_set (mm_set J r3 1 (nI 0)) 6 1 (nI (min (c + 1) 4))) (mm_sg (mm_sg (mm_sg (mm_sg G 7 3 (some r2)) 7 2 (some r1)) 7 1 (some r0)) 7 0 (some r3)) := by
  refine mm_Met.of qK_makeNewest_ok (by decide) (mm_cats rfl) (Nat.le_of_ble_eq_true rfl) ?_
  refine mm_aload_n rfl rfl ?_
  refine mm_getR rfl rfl rfl (by decide) rfl (mm_gi hG 6 0 7 (by decide)) ?_
  refine mm_iconst (v := nI 3) rfl (by decide) ?_
  refine mm_rrN rfl (by decide) rfl rfl (by decide) (by decide) (by decide) g3 rfl ?_
  refine mm_astore_n rfl (by decide) ?_
  refine mm_iconst (v := nI 3) rfl (by decide) ?_
  refine mm_istore_n rfl (by decide) ?_
  skip
  refine mm_iload_n rfl rfl ?_
  refine mm_if_leN (tgt := 33) rfl (by decide) (by decide) (fun h => absurd h (by decide)) (fun _ => ?_)
  refine mm_aload_n rfl rfl ?_
  refine mm_getR rfl rfl rfl (by decide) rfl (mm_gi hG 6 0 7 (by decide)) ?_
  refine mm_iload_n rfl rfl ?_
  refine mm_aload_n rfl rfl ?_
  refine mm_getR rfl rfl rfl (by decide) rfl (mm_gi hG 6 0 7 (by decide)) ?_
  refine mm_iload_n rfl rfl ?_
  refine mm_iconst (v := nI 1) rfl (by decide) ?_
  refine mm_isubN rfl (by decide) ?_
  refine mm_rrN rfl (by decide) rfl rfl (by decide) (by decide) (by decide) g2 rfl ?_
  refine mm_wqN rfl (by decide) rfl (by decide) (by decide) (by decide) (mm_l1 e2) e2 rfl rfl ?_
  refine mm_iincN rfl rfl (mm_dec1 (by decide)) (by decide) ?_
  refine mm_goto (tgt := 9) rfl (by decide) ?_
  skip
  refine mm_iload_n rfl rfl ?_
  refine mm_if_leN (tgt := 33) rfl (by decide) (by decide) (fun h => absurd h (by decide)) (fun _ => ?_)
  refine mm_aload_n rfl rfl ?_
  refine mm_getR rfl rfl rfl (by decide) rfl (mm_gi (mm_GI_sg hG) 6 0 7 (by decide)) ?_
  refine mm_iload_n rfl rfl ?_
  refine mm_aload_n rfl rfl ?_
  refine mm_getR rfl rfl rfl (by decide) rfl (mm_gi (mm_GI_sg hG) 6 0 7 (by decide)) ?_
  refine mm_iload_n rfl rfl ?_
  refine mm_iconst (v := nI 1) rfl (by decide) ?_
  refine mm_isubN rfl (by decide) ?_
  refine mm_rrN (b := r1) rfl (by decide) rfl rfl (by decide) (by decide) (by decide) (by simp [mm_sg, g1]) rfl ?_
  refine mm_wqN rfl (by decide) rfl (by decide) (by decide) (by decide) (mm_l1 e1) e1 rfl rfl ?_
  refine mm_iincN rfl rfl (mm_dec1 (by decide)) (by decide) ?_
  refine mm_goto (tgt := 9) rfl (by decide) ?_
  skip
  refine mm_iload_n rfl rfl ?_
  refine mm_if_leN (tgt := 33) rfl (by decide) (by decide) (fun h => absurd h (by decide)) (fun _ => ?_)
  refine mm_aload_n rfl rfl ?_
  refine mm_getR rfl rfl rfl (by decide) rfl (mm_gi (mm_GI_sg (mm_GI_sg hG)) 6 0 7 (by decide)) ?_
  refine mm_iload_n rfl rfl ?_
  refine mm_aload_n rfl rfl ?_
  refine mm_getR rfl rfl rfl (by decide) rfl (mm_gi (mm_GI_sg (mm_GI_sg hG)) 6 0 7 (by decide)) ?_
  refine mm_iload_n rfl rfl ?_
  refine mm_iconst (v := nI 1) rfl (by decide) ?_
  refine mm_isubN rfl (by decide) ?_
  refine mm_rrN (b := r0) rfl (by decide) rfl rfl (by decide) (by decide) (by decide) (by simp [mm_sg, g0]) rfl ?_
  refine mm_wqN rfl (by decide) rfl (by decide) (by decide) (by decide) (mm_l1 e0) e0 rfl rfl ?_
  refine mm_iincN rfl rfl (mm_dec1 (by decide)) (by decide) ?_
  refine mm_goto (tgt := 9) rfl (by decide) ?_
  skip
  refine mm_iload_n rfl rfl ?_
  refine mm_if_leN (tgt := 33) rfl (by decide) (by decide) (fun _ => ?_) (fun h => absurd h (by decide))
  refine mm_aload_n rfl rfl ?_
  refine mm_isV0 (M2 := qL_clear) wd_359 qL_clear_k (by decide) (sL_clear (mm_GI_sg (mm_GI_sg (mm_GI_sg hG))) e3) e3 (mm_l1 e3) (Nat.le_of_ble_eq_true rfl) (by decide) (by decide) rfl (by decide) ?_
  refine mm_aload_n rfl rfl ?_
  refine mm_getR rfl rfl rfl (by decide) rfl (mm_gi (mm_GI_sg (mm_GI_sg (mm_GI_sg hG))) 6 0 7 (by decide)) ?_
  refine mm_iconst (v := nI 0) rfl (by decide) ?_
  refine mm_aload_n rfl rfl ?_
  refine mm_wqN rfl (by decide) rfl (by decide) (by decide) (by decide) (mm_l1 e3) e3 rfl rfl ?_
  refine mm_aload_n rfl rfl ?_
  refine mm_aload_n rfl rfl ?_
  refine mm_getI (x := nI c) rfl rfl rfl (by decide) rfl (by simp [mm_set, mm_cp, hc, show ¬ 6 = r3 by omega]) ?_
  refine mm_iconst (v := nI 1) rfl (by decide) ?_
  refine mm_iaddN rfl ?_
  refine mm_iconst (v := nI 4) rfl (by decide) ?_
  refine mm_minN (by omega) (by omega) rfl wd_360 wd_299 wd_10 wd_300 (by decide) (Nat.le_of_ble_eq_true rfl) (by decide) (by decide) ?_
  refine mm_putI rfl rfl rfl (by decide) rfl (Or.inl rfl) rfl rfl ?_
  refine mm_return rfl rfl (by decide) (by decide) ?_
  exact ⟨rfl, rfl, rfl, rfl⟩
set_option maxRecDepth 100000 in
set_option maxHeartbeats 4000000 in
theorem sK_take1 {E : mm_E} {G : mm_G} {J : mm_J} (hG : mm_GI G) {r0 : Nat} (g0 : G 7 0 = some r0) (e0 : mm_SH r0 = .inl 2) (h0 : 8 ≤ r0) {n a b l : Nat} (hn : J 2 1 = nI n) (hn2 : n ≤ 100) (hl : J r0 1 = nI l) (hab : a ≤ b) (hb : b ≤ n) (hl2 : l + (b - a) ≤ 100) : mm_Ret E qK_take [.ref 6, .ref 2, .int (nI a), .int (nI b), .int (nI 1)] 86 J G none 86 (mm_set (mm_cp J 3 (r0 + 1) a l (b - a)) r0 1 (nI (l + (b - a)))) G := by
  refine mm_Met.of qK_take_ok (by decide) (mm_cats rfl) (Nat.le_of_ble_eq_true rfl) ?_
  refine mm_iload rfl rfl ?_
  refine mm_if_neN (tgt := 9) rfl (by decide) (by omega) (fun h2 => ?_) (fun h2 => ?_)
  · refine mm_aload_n rfl rfl ?_
    refine mm_getR rfl rfl rfl (by decide) rfl (mm_gi hG 6 0 7 (by decide)) ?_
    refine mm_iconst (v := nI 0) rfl (by decide) ?_
    refine mm_rrN rfl (by decide) rfl rfl (by decide) (by decide) (by decide) g0 rfl ?_
    refine mm_aload_n rfl rfl ?_
    refine mm_iload_n rfl rfl ?_
    refine mm_iload_n rfl rfl ?_
    refine mm_isV3 (M2 := qL_append) wd_361 qL_append_k (by decide) (sL_append (y := 2) hG e0 rfl (by omega) hl hn hab hb hn2 hl2) e0 (mm_l1 e0) (Nat.le_of_ble_eq_true rfl) (by decide) (by decide) rfl (by decide) ?_
    refine mm_return rfl rfl (by decide) (by decide) ?_
    exact ⟨rfl, rfl, rfl, rfl⟩
  · exact absurd h2 (by decide)
set_option maxRecDepth 100000 in
set_option maxHeartbeats 4000000 in
theorem sK_take0 {E : mm_E} {G : mm_G} {J : mm_J} (hG : mm_GI G) {r0 r1 r2 r3 : Nat} (g0 : G 7 0 = some r0) (g1 : G 7 1 = some r1) (g2 : G 7 2 = some r2) (g3 : G 7 3 = some r3) (e0 : mm_SH r0 = .inl 2) (e1 : mm_SH r1 = .inl 2) (e2 : mm_SH r2 = .inl 2) (e3 : mm_SH r3 = .inl 2) (h6 : 8 ≤ r3) {c : Nat} (hc : J 6 1 = nI c) (hc2 : c ≤ 4) {n a b : Nat} (hn : J 2 1 = nI n) (hn2 : n ≤ 100) (hab : a ≤ b) (hb : b ≤ n) : mm_Ret E qK_take [.ref 6, .ref 2, .int (nI a), .int (nI b), .int (nI 0)] 86 J G none 86 (mm_set (mm_cp (mm_set (mm_set J r3 1 (nI 0)) 6 1 (nI (min (c + 1) 4))) 3 (r3 + 1) a 0 (b - a)) r3 1 (nI (0 + (b - a)))) (mm_sg (mm_sg (mm_sg (mm_sg G 7 3 (some r2)) 7 2 (some r1)) 7 1 (some r0)) 7 0 (some r3)) := by
  refine mm_Met.of qK_take_ok (by decide) (mm_cats rfl) (Nat.le_of_ble_eq_true rfl) ?_
  refine mm_iload rfl rfl ?_
  refine mm_if_neN (tgt := 9) rfl (by decide) (by omega) (fun h2 => ?_) (fun h2 => ?_)
  · exact absurd rfl h2
  · refine mm_aload_n rfl rfl ?_
    refine mm_isV0 (M2 := qK_makeNewest) wd_355 qK_makeNewest_k (by decide) (sK_makeNewest hG g0 g1 g2 g3 e0 e1 e2 e3 h6 hc hc2) rfl (by decide) (Nat.le_of_ble_eq_true rfl) (by decide) (by decide) rfl (by decide) ?_
    refine mm_aload_n rfl rfl ?_
    refine mm_getR rfl rfl rfl (by decide) rfl (mm_gi (mm_GI_sg (mm_GI_sg (mm_GI_sg (mm_GI_sg hG)))) 6 0 7 (by decide)) ?_
    refine mm_iconst (v := nI 0) rfl (by decide) ?_
    refine mm_rrN (b := r3) rfl (by decide) rfl rfl (by decide) (by decide) (by decide) (by simp [mm_sg]) rfl ?_
    refine mm_aload_n rfl rfl ?_
    refine mm_iload_n rfl rfl ?_
    refine mm_iload_n rfl rfl ?_
    refine mm_isV3 (M2 := qL_append) wd_361 qL_append_k (by decide) (sL_append (y := 2) (k := 0) (mm_GI_sg (mm_GI_sg (mm_GI_sg (mm_GI_sg hG)))) e3 rfl (by omega) (by simp [mm_set, show ¬ r3 = 6 by omega]) (by simp [mm_set, hn, show ¬ 2 = r3 by omega]) hab hb hn2 (by omega)) e3 (mm_l1 e3) (Nat.le_of_ble_eq_true rfl) (by decide) (by decide) rfl (by decide) ?_
    refine mm_return rfl rfl (by decide) (by decide) ?_
    exact ⟨rfl, rfl, rfl, rfl⟩
set_option maxRecDepth 100000 in
set_option maxHeartbeats 4000000 in
theorem sV_note0 {E : mm_E} {G : mm_G} {J : mm_J} {c t : Int32} {z rc : Nat} (hr : J 63 3 = nI rc) (hr2 : rc < 2) (hz : J 63 2 = nI z) (hz2 : z ≤ 12) (h : rc = 0 ∨ z = 12) : mm_Ret E qV_note [.ref 63, .int c, .int t] 86 J G none 86 J G := by
  refine mm_Met.of qV_note_ok (by decide) (mm_cats rfl) (Nat.le_of_ble_eq_true rfl) ?_
  refine mm_aload_n rfl rfl ?_
  refine mm_getI (x := nI rc) rfl rfl rfl (by decide) rfl hr ?_
  refine mm_if_eqN (tgt := 46) rfl (by decide) (by omega) (fun h4 => ?_) (fun h4 => ?_)
  · refine mm_return rfl rfl (by decide) (by decide) ?_
    exact ⟨rfl, rfl, rfl, rfl⟩
  · refine mm_aload_n rfl rfl ?_
    refine mm_getI (x := nI z) rfl rfl rfl (by decide) rfl hz ?_
    refine mm_bipush (v := nI 12) rfl (by decide) ?_
    refine mm_icmp_geN (tgt := 46) rfl (by decide) (by omega) (by omega) (fun h13 => ?_) (fun h13 => ?_)
    · refine mm_return rfl rfl (by decide) (by decide) ?_
      exact ⟨rfl, rfl, rfl, rfl⟩
    · exact absurd h13 (by omega)
set_option maxRecDepth 100000 in
set_option maxHeartbeats 4000000 in
theorem sV_note1 {E : mm_E} {G : mm_G} {J : mm_J} (hG : mm_GI G) {c t : Int32} {z : Nat} (hr : J 63 3 = nI 1) (hz : J 63 2 = nI z) (hz2 : z < 12) (ht : narrow .boolean (.int t) = .int t) : mm_Ret E qV_note [.ref 63, .int c, .int t] 86 J G none 86 (mm_set (mm_set (mm_set J 64 z c) 65 z t) 63 2 (nI (z + 1))) G := by
  refine mm_Met.of qV_note_ok (by decide) (mm_cats rfl) (Nat.le_of_ble_eq_true rfl) ?_
  refine mm_aload_n rfl rfl ?_
  refine mm_getI (x := nI 1) rfl rfl rfl (by decide) rfl hr ?_
  refine mm_if_eqN (tgt := 46) rfl (by decide) (by omega) (fun h4 => ?_) (fun h4 => ?_)
  · exact absurd h4 (by decide)
  · refine mm_aload_n rfl rfl ?_
    refine mm_getI (x := nI z) rfl rfl rfl (by decide) rfl hz ?_
    refine mm_bipush (v := nI 12) rfl (by decide) ?_
    refine mm_icmp_geN (tgt := 46) rfl (by decide) (by omega) (by omega) (fun h13 => ?_) (fun h13 => ?_)
    · exact absurd h13 (by omega)
    · refine mm_aload_n rfl rfl ?_
      refine mm_getR rfl rfl rfl (by decide) rfl (mm_gi hG 63 0 64 (by decide)) ?_
      refine mm_aload_n rfl rfl ?_
      refine mm_getI (x := nI z) rfl rfl rfl (by decide) rfl hz ?_
      refine mm_iload_n rfl rfl ?_
      refine mm_wrN rfl (by decide) rfl (by decide) (by omega) (by decide) rfl ?_
      refine mm_aload_n rfl rfl ?_
      refine mm_getR rfl rfl rfl (by decide) rfl (mm_gi hG 63 1 65 (by decide)) ?_
      refine mm_aload_n rfl rfl ?_
      refine mm_getI (x := nI z) rfl rfl rfl (by decide) rfl (by simp [mm_set, mm_cp, hz]) ?_
      refine mm_iload_n rfl rfl ?_
      refine mm_wzN rfl (by decide) rfl (by decide) (by omega) (by decide) ht rfl ?_
      refine mm_aload_n rfl rfl ?_
      refine mm_dup rfl rfl ?_
      refine mm_getI (x := nI z) rfl rfl rfl (by decide) rfl (by simp [mm_set, mm_cp, hz]) ?_
      refine mm_iconst (v := nI 1) rfl (by decide) ?_
      refine mm_iaddN rfl ?_
      refine mm_putI rfl rfl rfl (by decide) rfl (Or.inl rfl) rfl rfl ?_
      refine mm_return rfl rfl (by decide) (by decide) ?_
      exact ⟨rfl, rfl, rfl, rfl⟩
set_option maxRecDepth 100000 in
set_option maxHeartbeats 4000000 in
theorem lL_has {E : mm_E} {G : mm_G} {J : mm_J} (hG : mm_GI G) {y : Nat} (hy : mm_SH y = .inl 2) {n l q : Nat} (hn : J 2 1 = nI n) (hn2 : n ≤ 100) (hl : J y 1 = nI l) (hl2 : l ≤ 100) (hq : q + l ≤ n) : ∀ (k i : Nat), l - i = k → i ≤ l → (∀ j, j < i → J 3 (q + j) = J (y + 1) j) → mm_Go E qL_has 21 [some (.ref 2), some (.ref y), some (.int (nI q)), some (.int (nI i))] [] 86 J G 0 0 (mm_Fm E qL_has (mm_is (some (.int (nI (ed_b (ed_at (J 3) (J (y + 1)) q l))))) 86 J G))
  | 0, i, hk, hi, hinv => by
    refine mm_iload_n rfl rfl ?_
    refine mm_aload_n rfl rfl ?_
    refine mm_getI (x := nI l) rfl rfl hy (mm_l1 hy) rfl hl ?_
    refine mm_icmp_geN (tgt := 54) rfl (by decide) (by omega) (by omega) (fun h26 => ?_) (fun h26 => ?_)
    · refine mm_iconst (v := nI 1) rfl (by decide) ?_
      refine mm_ireturn rfl rfl rfl (by decide) (by decide) ?_
      exact ⟨by rw [show ed_at (J 3) (J (y + 1)) q l = true from by simp only [ed_at, decide_eq_true_eq]; exact fun j hj => hinv j (by omega)]; rfl, rfl, rfl, rfl⟩
    · exact absurd h26 (by omega)
  | k + 1, i, hk, hi, hinv => by
    refine mm_iload_n rfl rfl ?_
    refine mm_aload_n rfl rfl ?_
    refine mm_getI (x := nI l) rfl rfl hy (mm_l1 hy) rfl hl ?_
    refine mm_icmp_geN (tgt := 54) rfl (by decide) (by omega) (by omega) (fun h26 => ?_) (fun h26 => ?_)
    · exact absurd h26 (by omega)
    · refine mm_aload_n rfl rfl ?_
      refine mm_getR rfl rfl rfl (by decide) rfl (mm_gi hG 2 0 3 (by decide)) ?_
      refine mm_iload_n rfl rfl ?_
      refine mm_iload_n rfl rfl ?_
      refine mm_iaddN rfl ?_
      refine mm_rdN rfl (by decide) rfl (by decide) (by omega) (by decide) rfl rfl ?_
      refine mm_aload_n rfl rfl ?_
      refine mm_getR rfl rfl hy (mm_l1 hy) rfl (hG.1 _ hy) ?_
      refine mm_iload_n rfl rfl ?_
      refine mm_rdN (mm_l2 hy) (by decide) rfl (mm_l3 hy) (by omega) (by decide) rfl rfl ?_
      refine mm_icmp_eq (tgt := 48) rfl (by decide) (fun h43 => ?_) (fun h43 => ?_)
      · refine mm_iincN rfl rfl (mm_inc1 _) (by decide) ?_
        refine mm_goto (tgt := 21) rfl (by decide) ?_
        exact lL_has hG hy hn hn2 hl hl2 hq k (i + 1) (by omega) (by omega) (fun j hj => by
          rcases Nat.lt_or_eq_of_le (Nat.le_of_lt_succ hj) with e | e
          · exact hinv j e
          · rw [e]; exact h43)
      · refine mm_iconst (v := nI 0) rfl (by decide) ?_
        refine mm_ireturn rfl rfl rfl (by decide) (by decide) ?_
        exact ⟨by rw [show ed_at (J 3) (J (y + 1)) q l = false from by simp only [ed_at, decide_eq_false_iff_not]; exact fun hh => h43 (hh i (by omega))]; rfl, rfl, rfl, rfl⟩
set_option maxRecDepth 100000 in
set_option maxHeartbeats 4000000 in
theorem sL_has {E : mm_E} {G : mm_G} {J : mm_J} (hG : mm_GI G) {y : Nat} (hy : mm_SH y = .inl 2) {n l q : Nat} (hn : J 2 1 = nI n) (hn2 : n ≤ 100) (hl : J y 1 = nI l) (hl2 : l ≤ 100) (hq : q + l ≤ n) : mm_Ret E qL_has [.ref 2, .ref y, .int (nI q)] 86 J G (some (.int (nI (ed_b (ed_at (J 3) (J (y + 1)) q l))))) 86 J G := by
  refine mm_Met.of qL_has_ok (by decide) (mm_cats rfl) (Nat.le_of_ble_eq_true rfl) ?_
  refine mm_iload_n rfl rfl ?_
  refine mm_if_ltN (tgt := 17) rfl (by decide) (by omega) ?_
  refine mm_iload_n rfl rfl ?_
  refine mm_aload_n rfl rfl ?_
  refine mm_getI (x := nI l) rfl rfl hy (mm_l1 hy) rfl hl ?_
  refine mm_iaddN rfl ?_
  refine mm_aload_n rfl rfl ?_
  refine mm_getI (x := nI n) rfl rfl rfl (by decide) rfl hn ?_
  refine mm_icmp_leN (tgt := 19) rfl (by decide) (by omega) (by omega) (fun h14 => ?_) (fun h14 => ?_)
  · refine mm_iconst (v := nI 0) rfl (by decide) ?_
    refine mm_istore_n rfl (by decide) ?_
    exact lL_has hG hy hn hn2 hl hl2 hq l 0 rfl (by omega) (fun j hj => absurd hj (by omega))
  · exact absurd h14 (by omega)
end
section
/-- row and column of the place i -/
def ed_rc (f : Nat → Int32) (c : Nat) : Nat → Nat × Nat
  | 0 => (0, 0)
  | i + 1 => if (ed_rc f c i).2 + 1 = c ∨ f i = nI 10 then ((ed_rc f c i).1 + 1, 0) else ((ed_rc f c i).1, (ed_rc f c i).2 + 1)
theorem ed_rc_y {f : Nat → Int32} {c i : Nat} (h : (ed_rc f c i).2 + 1 = c ∨ f i = nI 10) : ed_rc f c (i + 1) = ((ed_rc f c i).1 + 1, 0) := by
  rw [ed_rc, if_pos h]
theorem ed_rc_n {f : Nat → Int32} {c i : Nat} (h : ¬ (ed_rc f c i).2 + 1 = c) (h2 : ¬ f i = nI 10) : ed_rc f c (i + 1) = ((ed_rc f c i).1, (ed_rc f c i).2 + 1) := by
  rw [ed_rc, if_neg (fun q => q.elim h h2)]
theorem ed_rc_le (f : Nat → Int32) (c : Nat) : ∀ i, (ed_rc f c i).1 ≤ i ∧ (ed_rc f c i).2 ≤ i
  | 0 => ⟨Nat.le_refl 0, Nat.le_refl 0⟩
  | i + 1 => by
    have := ed_rc_le f c i
    unfold ed_rc
    split
    · exact ⟨Nat.succ_le_succ this.1, Nat.zero_le _⟩
    · exact ⟨Nat.le_succ_of_le this.1, Nat.succ_le_succ this.2⟩
theorem ed_fol {f r w : Nat} (hf : f < 2 ^ 30) (hr : r < 2 ^ 29) (hw : w < 2 ^ 30) : (if nI f < nI r - nI w + nI 1 then nI r - nI w + nI 1 else nI f) = nI (max f (r + 1 - w)) := by
  have e : nI r - nI w + nI 1 = nI (r + 1) - nI w := by
    rw [← nI_add, Int32.sub_eq_add_neg, Int32.sub_eq_add_neg, Int32.add_assoc, Int32.add_assoc, Int32.add_comm (-nI w)]
  rw [e]
  by_cases h : w ≤ r + 1
  · rw [pk_sub h]
    by_cases h2 : f < r + 1 - w
    · rw [if_pos ((nI_ltI (by omega) (by omega)).mpr h2)]
      congr 1
      omega
    · rw [if_neg (fun q => h2 ((nI_ltI (by omega) (by omega)).mp q))]
      congr 1
      omega
  · rw [if_neg (fun q => by
      rw [Int32.lt_iff_toInt_lt, pk_sub_toInt (by omega) hw, nI_toInt (by omega)] at q
      omega)]
    congr 1
    omega
/-- the code shown at row sr, column sc, among the places from i on -/
def ed_ca (f : Nat → Int32) (c sr sc : Nat) : Nat → Nat → Int32
  | 0, _ => nI 0
  | k + 1, i => if (ed_rc f c i).1 = sr ∧ (ed_rc f c i).2 = sc then (if f i = nI 10 then nI 0 else f i) else ed_ca f c sr sc k (i + 1)
def ed_sp (r : Nat) : Nat := if r = 0 then 4913 else if r % 289 = 0 then 289 else if r % 17 = 0 then 17 else 1
def ed_lg (r b : Nat) : Bool := decide (b < r ∧ r < b + ed_sp b)
theorem ed_sp_le (r : Nat) : ed_sp r ≤ 4913 ∧ 1 ≤ ed_sp r := by
  unfold ed_sp
  (repeat' split) <;> omega
theorem mm_set_set (J : mm_J) (a k : Nat) (x y : Int32) : mm_set (mm_set J a k x) a k y = mm_set J a k y := by
  funext i j
  unfold mm_set
  split <;> rfl
set_option maxRecDepth 100000 in
set_option maxHeartbeats 4000000 in
theorem sN_resize0 {E : mm_E} {G : mm_G} {J : mm_J} {c r : Int32} (h : ¬ (nI 4 ≤ c ∧ c ≤ nI 20 ∧ nI 2 ≤ r ∧ r ≤ nI 6)) : mm_Ret E qN_resize [.ref 66, .int c, .int r] 86 J G (some (.int (-1))) 86 J G := by
  refine mm_Met.of qN_resize_ok (by decide) (mm_cats rfl) (Nat.le_of_ble_eq_true rfl) ?_
  refine mm_iload_n rfl rfl ?_
  refine mm_iconst (v := nI 4) rfl (by decide) ?_
  refine mm_icmp_lt (tgt := 22) rfl (by decide) (fun h2 => ?_) (fun h2 => ?_)
  · refine mm_iconst (v := -1) rfl (by decide) ?_
    refine mm_ireturn rfl rfl rfl (by decide) (by decide) ?_
    exact ⟨rfl, rfl, rfl, rfl⟩
  · refine mm_iload_n rfl rfl ?_
    refine mm_bipush (v := nI 20) rfl (by decide) ?_
    refine mm_icmp_gt (tgt := 22) rfl (by decide) (fun h8 => ?_) (fun h8 => ?_)
    · refine mm_iconst (v := -1) rfl (by decide) ?_
      refine mm_ireturn rfl rfl rfl (by decide) (by decide) ?_
      exact ⟨rfl, rfl, rfl, rfl⟩
    · refine mm_iload_n rfl rfl ?_
      refine mm_iconst (v := nI 2) rfl (by decide) ?_
      refine mm_icmp_lt (tgt := 22) rfl (by decide) (fun h13 => ?_) (fun h13 => ?_)
      · refine mm_iconst (v := -1) rfl (by decide) ?_
        refine mm_ireturn rfl rfl rfl (by decide) (by decide) ?_
        exact ⟨rfl, rfl, rfl, rfl⟩
      · refine mm_iload_n rfl rfl ?_
        refine mm_bipush (v := nI 6) rfl (by decide) ?_
        refine mm_icmp_le (tgt := 24) rfl (by decide) (fun h19 => ?_) (fun h19 => ?_)
        · exact absurd ⟨Int32.not_lt.mp h2, Int32.not_lt.mp h8, Int32.not_lt.mp h13, h19⟩ h
        · refine mm_iconst (v := -1) rfl (by decide) ?_
          refine mm_ireturn rfl rfl rfl (by decide) (by decide) ?_
          exact ⟨rfl, rfl, rfl, rfl⟩
set_option maxRecDepth 100000 in
set_option maxHeartbeats 4000000 in
theorem sN_resize1 {E : mm_E} {G : mm_G} {J : mm_J} {c r : Nat} (h1 : 4 ≤ c) (h2 : c ≤ 20) (h3 : 2 ≤ r) (h4 : r ≤ 6) : mm_Ret E qN_resize [.ref 66, .int (nI c), .int (nI r)] 86 J G (some (.int (nI 0))) 86 (mm_set (mm_set (mm_set J 66 0 (nI c)) 66 1 (nI r)) 66 2 (nI 0)) G := by
  refine mm_Met.of qN_resize_ok (by decide) (mm_cats rfl) (Nat.le_of_ble_eq_true rfl) ?_
  refine mm_iload_n rfl rfl ?_
  refine mm_iconst (v := nI 4) rfl (by decide) ?_
  refine mm_icmp_ltN (tgt := 22) rfl (by decide) (by omega) (by omega) (fun q2 => ?_) (fun q2 => ?_)
  · exact absurd q2 (by omega)
  · refine mm_iload_n rfl rfl ?_
    refine mm_bipush (v := nI 20) rfl (by decide) ?_
    refine mm_icmp_gtN (tgt := 22) rfl (by decide) (by omega) (by omega) (fun h8 => ?_) (fun h8 => ?_)
    · exact absurd h8 (by omega)
    · refine mm_iload_n rfl rfl ?_
      refine mm_iconst (v := nI 2) rfl (by decide) ?_
      refine mm_icmp_ltN (tgt := 22) rfl (by decide) (by omega) (by omega) (fun h13 => ?_) (fun h13 => ?_)
      · exact absurd h13 (by omega)
      · refine mm_iload_n rfl rfl ?_
        refine mm_bipush (v := nI 6) rfl (by decide) ?_
        refine mm_icmp_leN (tgt := 24) rfl (by decide) (by omega) (by omega) (fun h19 => ?_) (fun h19 => ?_)
        · refine mm_aload_n rfl rfl ?_
          refine mm_iload_n rfl rfl ?_
          refine mm_putI rfl rfl rfl (by decide) rfl (Or.inl rfl) rfl rfl ?_
          refine mm_aload_n rfl rfl ?_
          refine mm_iload_n rfl rfl ?_
          refine mm_putI rfl rfl rfl (by decide) rfl (Or.inl rfl) rfl rfl ?_
          refine mm_aload_n rfl rfl ?_
          refine mm_iconst (v := nI 0) rfl (by decide) ?_
          refine mm_putI rfl rfl rfl (by decide) rfl (Or.inl rfl) rfl rfl ?_
          refine mm_iconst (v := nI 0) rfl (by decide) ?_
          refine mm_ireturn rfl rfl rfl (by decide) (by decide) ?_
          exact ⟨rfl, rfl, rfl, rfl⟩
        · exact absurd h19 (by omega)
set_option maxRecDepth 100000 in
set_option maxHeartbeats 4000000 in
theorem lN_rowOf {E : mm_E} {G : mm_G} {J : mm_J} (hG : mm_GI G) {n q c : Nat} (hn : J 2 1 = nI n) (hn2 : n ≤ 100) (hq : q ≤ n) (hc : J 66 0 = nI c) (hc2 : c ≤ 20) : ∀ (k i : Nat), q - i = k → i ≤ q → mm_Go E qN_rowOf 8 [some (.ref 66), some (.ref 2), some (.int (nI q)), some (.int (nI (ed_rc (J 3) c i).1)), some (.int (nI (ed_rc (J 3) c i).2)), some (.int (nI i))] [] 86 J G 0 0 (mm_Fm E qN_rowOf (mm_is (some (.int (nI (ed_rc (J 3) c q).1))) 86 J G))
  | 0, i, hk, hi => by
    have hrc := ed_rc_le (J 3) c i
    refine mm_iload rfl rfl ?_
    refine mm_iload_n rfl rfl ?_
    refine mm_icmp_geN (tgt := 59) rfl (by decide) (by omega) (by omega) (fun h11 => ?_) (fun h11 => ?_)
    · refine mm_iload_n rfl rfl ?_
      refine mm_ireturn rfl rfl rfl (by decide) (by decide) ?_
      exact ⟨by rw [show i = q by omega], rfl, rfl, rfl⟩
    · exact absurd h11 (by omega)
  | k + 1, i, hk, hi => by
    have hrc := ed_rc_le (J 3) c i
    refine mm_iload rfl rfl ?_
    refine mm_iload_n rfl rfl ?_
    refine mm_icmp_geN (tgt := 59) rfl (by decide) (by omega) (by omega) (fun h11 => ?_) (fun h11 => ?_)
    · exact absurd h11 (by omega)
    · refine mm_iload rfl rfl ?_
      refine mm_aload_n rfl rfl ?_
      refine mm_getI (x := nI n) rfl rfl rfl (by decide) rfl hn ?_
      refine mm_icmp_geN (tgt := 59) rfl (by decide) (by omega) (by omega) (fun h20 => ?_) (fun h20 => ?_)
      · exact absurd h20 (by omega)
      · refine mm_iincN rfl rfl (mm_inc1 _) (by decide) ?_
        refine mm_iload rfl rfl ?_
        refine mm_aload_n rfl rfl ?_
        refine mm_getI (x := nI c) rfl rfl rfl (by decide) rfl hc ?_
        refine mm_icmp_eqN (tgt := 47) rfl (by decide) (by omega) (by omega) (fun h32 => ?_) (fun h32 => ?_)
        · refine mm_iincN rfl rfl (mm_inc1 _) (by decide) ?_
          refine mm_iconst (v := nI 0) rfl (by decide) ?_
          refine mm_istore rfl (by decide) ?_
          refine mm_iincN rfl rfl (mm_inc1 _) (by decide) ?_
          refine mm_goto (tgt := 8) rfl (by decide) ?_
          have K := lN_rowOf (E := E) hG hn hn2 hq hc hc2 k (i + 1) (by omega) (by omega)
          rw [ed_rc_y (Or.inl h32)] at K
          exact K
        · refine mm_aload_n rfl rfl ?_
          refine mm_getR rfl rfl rfl (by decide) rfl (mm_gi hG 2 0 3 (by decide)) ?_
          refine mm_iload rfl rfl ?_
          refine mm_rdN rfl (by decide) rfl (by decide) (by omega) (by decide) rfl rfl ?_
          refine mm_bipush (v := nI 10) rfl (by decide) ?_
          refine mm_icmp_ne (tgt := 53) rfl (by decide) (fun h44 => ?_) (fun h44 => ?_)
          · refine mm_iincN rfl rfl (mm_inc1 _) (by decide) ?_
            refine mm_goto (tgt := 8) rfl (by decide) ?_
            have K := lN_rowOf (E := E) hG hn hn2 hq hc hc2 k (i + 1) (by omega) (by omega)
            rw [ed_rc_n h32 h44] at K
            exact K
          · refine mm_iincN rfl rfl (mm_inc1 _) (by decide) ?_
            refine mm_iconst (v := nI 0) rfl (by decide) ?_
            refine mm_istore rfl (by decide) ?_
            refine mm_iincN rfl rfl (mm_inc1 _) (by decide) ?_
            refine mm_goto (tgt := 8) rfl (by decide) ?_
            have K := lN_rowOf (E := E) hG hn hn2 hq hc hc2 k (i + 1) (by omega) (by omega)
            rw [ed_rc_y (Or.inr h44)] at K
            exact K
set_option maxRecDepth 100000 in
set_option maxHeartbeats 4000000 in
theorem sN_rowOf {E : mm_E} {G : mm_G} {J : mm_J} (hG : mm_GI G) {n q c : Nat} (hn : J 2 1 = nI n) (hn2 : n ≤ 100) (hq : q ≤ n) (hc : J 66 0 = nI c) (hc2 : c ≤ 20) : mm_Ret E qN_rowOf [.ref 66, .ref 2, .int (nI q)] 86 J G (some (.int (nI (ed_rc (J 3) c q).1))) 86 J G := by
  refine mm_Met.of qN_rowOf_ok (by decide) (mm_cats rfl) (Nat.le_of_ble_eq_true rfl) ?_
  refine mm_iconst (v := nI 0) rfl (by decide) ?_
  refine mm_istore_n rfl (by decide) ?_
  refine mm_iconst (v := nI 0) rfl (by decide) ?_
  refine mm_istore rfl (by decide) ?_
  refine mm_iconst (v := nI 0) rfl (by decide) ?_
  refine mm_istore rfl (by decide) ?_
  exact lN_rowOf hG hn hn2 hq hc hc2 q 0 rfl (by omega)
set_option maxRecDepth 100000 in
set_option maxHeartbeats 4000000 in
theorem sN_follow {E : mm_E} {G : mm_G} {J : mm_J} (hG : mm_GI G) {n q c f w : Nat} (hn : J 2 1 = nI n) (hn2 : n ≤ 100) (hq : q ≤ n) (hc : J 66 0 = nI c) (hc2 : c ≤ 20) (hp : J 1 3 = nI q) (hf : J 66 2 = nI f) (hf2 : f ≤ 200) (hw : J 66 1 = nI w) (hw2 : w ≤ 6) : mm_Ret E qN_follow [.ref 66, .ref 1] 86 J G none 86 (mm_set J 66 2 (nI (max (min f (ed_rc (J 3) c q).1) ((ed_rc (J 3) c q).1 + 1 - w)))) G := by
  refine mm_Met.of qN_follow_ok (by decide) (mm_cats rfl) (Nat.le_of_ble_eq_true rfl) ?_
  have hrc := ed_rc_le (J 3) c q
  refine mm_aload_n rfl rfl ?_
  refine mm_aload_n rfl rfl ?_
  refine mm_getR rfl rfl rfl (by decide) rfl (mm_gi hG 1 0 2 (by decide)) ?_
  refine mm_aload_n rfl rfl ?_
  refine mm_getI (x := nI q) rfl rfl rfl (by decide) rfl hp ?_
  refine mm_isV2 (M2 := qN_rowOf) wd_477 qN_rowOf_k (by decide) (sN_rowOf hG hn hn2 hq hc hc2) rfl (by decide) (Nat.le_of_ble_eq_true rfl) (by decide) (by decide) rfl (by decide) ?_
  refine mm_istore_n rfl (by decide) ?_
  refine mm_aload_n rfl rfl ?_
  refine mm_aload_n rfl rfl ?_
  refine mm_getI (x := nI f) rfl rfl rfl (by decide) rfl hf ?_
  refine mm_iload_n rfl rfl ?_
  refine mm_minN (by omega) (by omega) rfl wd_481 wd_299 wd_10 wd_300 (by decide) (Nat.le_of_ble_eq_true rfl) (by decide) (by decide) ?_
  refine mm_putI rfl rfl rfl (by decide) rfl (Or.inl rfl) rfl rfl ?_
  refine mm_aload_n rfl rfl ?_
  refine mm_aload_n rfl rfl ?_
  refine mm_getI (x := nI (min f (ed_rc (J 3) c q).1)) rfl rfl rfl (by decide) rfl (by simp [mm_set]) ?_
  refine mm_iload_n rfl rfl ?_
  refine mm_aload_n rfl rfl ?_
  refine mm_getI (x := nI w) rfl rfl rfl (by decide) rfl (by simp [mm_set, mm_cp, hw]) ?_
  refine mm_isub rfl ?_
  refine mm_iconst (v := nI 1) rfl (by decide) ?_
  refine mm_iadd rfl ?_
  refine mm_max rfl wd_482 wd_306 wd_10 wd_307 (by decide) (Nat.le_of_ble_eq_true rfl) (by decide) (by decide) ?_
  rw [ed_fol (by omega) (by omega) (by omega)]
  refine mm_putI rfl rfl rfl (by decide) rfl (Or.inl rfl) rfl rfl ?_
  refine mm_return rfl rfl (by decide) (by decide) ?_
  exact ⟨rfl, rfl, mm_set_set _ _ _ _ _, rfl⟩
set_option maxRecDepth 100000 in
set_option maxHeartbeats 4000000 in
theorem lN_codeAt {E : mm_E} {G : mm_G} {J : mm_J} (hG : mm_GI G) {n c sr sc : Nat} (hn : J 2 1 = nI n) (hn2 : n ≤ 100) (hc : J 66 0 = nI c) (hc2 : c ≤ 20) (hsr : sr ≤ 400) (hsc : sc ≤ 20) : ∀ (k i : Nat) (z : Option Value), n - i = k → i ≤ n → mm_Go E qN_codeAt 9 [some (.ref 66), some (.ref 2), some (.int (nI sr)), some (.int (nI sc)), some (.int (nI (ed_rc (J 3) c i).1)), some (.int (nI (ed_rc (J 3) c i).2)), some (.int (nI i)), z] [] 86 J G 0 0 (mm_Fm E qN_codeAt (mm_is (some (.int (ed_ca (J 3) c sr sc k i))) 86 J G))
  | 0, i, z, hk, hi => by
    refine mm_iload rfl rfl ?_
    refine mm_aload_n rfl rfl ?_
    refine mm_getI (x := nI n) rfl rfl rfl (by decide) rfl hn ?_
    refine mm_icmp_geN (tgt := 95) rfl (by decide) (by omega) (by omega) (fun h15 => ?_) (fun h15 => ?_)
    · refine mm_iconst (v := nI 0) rfl (by decide) ?_
      refine mm_ireturn rfl rfl rfl (by decide) (by decide) ?_
      exact ⟨rfl, rfl, rfl, rfl⟩
    · exact absurd h15 (by omega)
  | k + 1, i, z, hk, hi => by
    have hrc := ed_rc_le (J 3) c i
    refine mm_iload rfl rfl ?_
    refine mm_aload_n rfl rfl ?_
    refine mm_getI (x := nI n) rfl rfl rfl (by decide) rfl hn ?_
    refine mm_icmp_geN (tgt := 95) rfl (by decide) (by omega) (by omega) (fun h15 => ?_) (fun h15 => ?_)
    · exact absurd h15 (by omega)
    · refine mm_aload_n rfl rfl ?_
      refine mm_getR rfl rfl rfl (by decide) rfl (mm_gi hG 2 0 3 (by decide)) ?_
      refine mm_iload rfl rfl ?_
      refine mm_rdN rfl (by decide) rfl (by decide) (by omega) (by decide) rfl rfl ?_
      refine mm_bipush (v := nI 10) rfl (by decide) ?_
      refine mm_icmp_ne (tgt := 34) rfl (by decide) (fun h27 => ?_) (fun h27 => ?_)
      · refine mm_iconst (v := nI 0) rfl (by decide) ?_
        refine mm_istore rfl (by decide) ?_
        refine mm_iload rfl rfl ?_
        refine mm_iload_n rfl rfl ?_
        refine mm_icmp_neN (tgt := 66) rfl (by decide) (by omega) (by omega) (fun h40 => ?_) (fun h40 => ?_)
        · refine mm_iincN rfl rfl (mm_inc1 _) (by decide) ?_
          refine mm_iload rfl rfl ?_
          refine mm_aload_n rfl rfl ?_
          refine mm_getI (x := nI c) rfl rfl rfl (by decide) rfl hc ?_
          refine mm_icmp_eqN (tgt := 83) rfl (by decide) (by omega) (by omega) (fun h75 => ?_) (fun h75 => ?_)
          · refine mm_iincN rfl rfl (mm_inc1 _) (by decide) ?_
            refine mm_iconst (v := nI 0) rfl (by decide) ?_
            refine mm_istore rfl (by decide) ?_
            refine mm_iincN rfl rfl (mm_inc1 _) (by decide) ?_
            refine mm_goto (tgt := 9) rfl (by decide) ?_
            rw [show ed_ca (J 3) c sr sc (k + 1) i = ed_ca (J 3) c sr sc k (i + 1) from by rw [ed_ca, if_neg (fun q => h40 q.1)]]
            have K := lN_codeAt (E := E) hG hn hn2 hc hc2 hsr hsc k (i + 1) (some (.int (nI 0))) (by omega) (by omega)
            rw [ed_rc_y (Or.inl h75)] at K
            exact K
          · refine mm_iload rfl rfl ?_
            refine mm_if_eqN (tgt := 89) rfl (by decide) (by omega) (fun h80 => ?_) (fun h80 => ?_)
            · refine mm_iincN rfl rfl (mm_inc1 _) (by decide) ?_
              refine mm_goto (tgt := 9) rfl (by decide) ?_
              rw [show ed_ca (J 3) c sr sc (k + 1) i = ed_ca (J 3) c sr sc k (i + 1) from by rw [ed_ca, if_neg (fun q => h40 q.1)]]
              have K := lN_codeAt (E := E) hG hn hn2 hc hc2 hsr hsc k (i + 1) (some (.int (nI 0))) (by omega) (by omega)
              rw [ed_rc_n h75 h27] at K
              exact K
            · exact absurd rfl h80
        · refine mm_iload rfl rfl ?_
          refine mm_iload_n rfl rfl ?_
          refine mm_icmp_neN (tgt := 66) rfl (by decide) (by omega) (by omega) (fun h46 => ?_) (fun h46 => ?_)
          · refine mm_iincN rfl rfl (mm_inc1 _) (by decide) ?_
            refine mm_iload rfl rfl ?_
            refine mm_aload_n rfl rfl ?_
            refine mm_getI (x := nI c) rfl rfl rfl (by decide) rfl hc ?_
            refine mm_icmp_eqN (tgt := 83) rfl (by decide) (by omega) (by omega) (fun h75 => ?_) (fun h75 => ?_)
            · refine mm_iincN rfl rfl (mm_inc1 _) (by decide) ?_
              refine mm_iconst (v := nI 0) rfl (by decide) ?_
              refine mm_istore rfl (by decide) ?_
              refine mm_iincN rfl rfl (mm_inc1 _) (by decide) ?_
              refine mm_goto (tgt := 9) rfl (by decide) ?_
              rw [show ed_ca (J 3) c sr sc (k + 1) i = ed_ca (J 3) c sr sc k (i + 1) from by rw [ed_ca, if_neg (fun q => h46 q.2)]]
              have K := lN_codeAt (E := E) hG hn hn2 hc hc2 hsr hsc k (i + 1) (some (.int (nI 0))) (by omega) (by omega)
              rw [ed_rc_y (Or.inl h75)] at K
              exact K
            · refine mm_iload rfl rfl ?_
              refine mm_if_eqN (tgt := 89) rfl (by decide) (by omega) (fun h80 => ?_) (fun h80 => ?_)
              · refine mm_iincN rfl rfl (mm_inc1 _) (by decide) ?_
                refine mm_goto (tgt := 9) rfl (by decide) ?_
                rw [show ed_ca (J 3) c sr sc (k + 1) i = ed_ca (J 3) c sr sc k (i + 1) from by rw [ed_ca, if_neg (fun q => h46 q.2)]]
                have K := lN_codeAt (E := E) hG hn hn2 hc hc2 hsr hsc k (i + 1) (some (.int (nI 0))) (by omega) (by omega)
                rw [ed_rc_n h75 h27] at K
                exact K
              · exact absurd rfl h80
          · refine mm_iload rfl rfl ?_
            refine mm_if_eqN (tgt := 58) rfl (by decide) (by omega) (fun h51 => ?_) (fun h51 => ?_)
            · refine mm_aload_n rfl rfl ?_
              refine mm_getR rfl rfl rfl (by decide) rfl (mm_gi hG 2 0 3 (by decide)) ?_
              refine mm_iload rfl rfl ?_
              refine mm_rdN rfl (by decide) rfl (by decide) (by omega) (by decide) rfl rfl ?_
              refine mm_ireturn rfl rfl rfl (by decide) (by decide) ?_
              exact ⟨by rw [ed_ca, if_pos ⟨h40, h46⟩, if_neg h27], rfl, rfl, rfl⟩
            · exact absurd rfl h51
      · refine mm_iconst (v := nI 1) rfl (by decide) ?_
        refine mm_goto (tgt := 35) rfl (by decide) ?_
        refine mm_istore rfl (by decide) ?_
        refine mm_iload rfl rfl ?_
        refine mm_iload_n rfl rfl ?_
        refine mm_icmp_neN (tgt := 66) rfl (by decide) (by omega) (by omega) (fun h40 => ?_) (fun h40 => ?_)
        · refine mm_iincN rfl rfl (mm_inc1 _) (by decide) ?_
          refine mm_iload rfl rfl ?_
          refine mm_aload_n rfl rfl ?_
          refine mm_getI (x := nI c) rfl rfl rfl (by decide) rfl hc ?_
          refine mm_icmp_eqN (tgt := 83) rfl (by decide) (by omega) (by omega) (fun h75 => ?_) (fun h75 => ?_)
          · refine mm_iincN rfl rfl (mm_inc1 _) (by decide) ?_
            refine mm_iconst (v := nI 0) rfl (by decide) ?_
            refine mm_istore rfl (by decide) ?_
            refine mm_iincN rfl rfl (mm_inc1 _) (by decide) ?_
            refine mm_goto (tgt := 9) rfl (by decide) ?_
            rw [show ed_ca (J 3) c sr sc (k + 1) i = ed_ca (J 3) c sr sc k (i + 1) from by rw [ed_ca, if_neg (fun q => h40 q.1)]]
            have K := lN_codeAt (E := E) hG hn hn2 hc hc2 hsr hsc k (i + 1) (some (.int (nI 1))) (by omega) (by omega)
            rw [ed_rc_y (Or.inl h75)] at K
            exact K
          · refine mm_iload rfl rfl ?_
            refine mm_if_eqN (tgt := 89) rfl (by decide) (by omega) (fun h80 => ?_) (fun h80 => ?_)
            · exact absurd h80 (by decide)
            · refine mm_iincN rfl rfl (mm_inc1 _) (by decide) ?_
              refine mm_iconst (v := nI 0) rfl (by decide) ?_
              refine mm_istore rfl (by decide) ?_
              refine mm_iincN rfl rfl (mm_inc1 _) (by decide) ?_
              refine mm_goto (tgt := 9) rfl (by decide) ?_
              rw [show ed_ca (J 3) c sr sc (k + 1) i = ed_ca (J 3) c sr sc k (i + 1) from by rw [ed_ca, if_neg (fun q => h40 q.1)]]
              have K := lN_codeAt (E := E) hG hn hn2 hc hc2 hsr hsc k (i + 1) (some (.int (nI 1))) (by omega) (by omega)
              rw [ed_rc_y (Or.inr h27)] at K
              exact K
        · refine mm_iload rfl rfl ?_
          refine mm_iload_n rfl rfl ?_
          refine mm_icmp_neN (tgt := 66) rfl (by decide) (by omega) (by omega) (fun h46 => ?_) (fun h46 => ?_)
          · refine mm_iincN rfl rfl (mm_inc1 _) (by decide) ?_
            refine mm_iload rfl rfl ?_
            refine mm_aload_n rfl rfl ?_
            refine mm_getI (x := nI c) rfl rfl rfl (by decide) rfl hc ?_
            refine mm_icmp_eqN (tgt := 83) rfl (by decide) (by omega) (by omega) (fun h75 => ?_) (fun h75 => ?_)
            · refine mm_iincN rfl rfl (mm_inc1 _) (by decide) ?_
              refine mm_iconst (v := nI 0) rfl (by decide) ?_
              refine mm_istore rfl (by decide) ?_
              refine mm_iincN rfl rfl (mm_inc1 _) (by decide) ?_
              refine mm_goto (tgt := 9) rfl (by decide) ?_
              rw [show ed_ca (J 3) c sr sc (k + 1) i = ed_ca (J 3) c sr sc k (i + 1) from by rw [ed_ca, if_neg (fun q => h46 q.2)]]
              have K := lN_codeAt (E := E) hG hn hn2 hc hc2 hsr hsc k (i + 1) (some (.int (nI 1))) (by omega) (by omega)
              rw [ed_rc_y (Or.inl h75)] at K
              exact K
            · refine mm_iload rfl rfl ?_
              refine mm_if_eqN (tgt := 89) rfl (by decide) (by omega) (fun h80 => ?_) (fun h80 => ?_)
              · exact absurd h80 (by decide)
              · refine mm_iincN rfl rfl (mm_inc1 _) (by decide) ?_
                refine mm_iconst (v := nI 0) rfl (by decide) ?_
                refine mm_istore rfl (by decide) ?_
                refine mm_iincN rfl rfl (mm_inc1 _) (by decide) ?_
                refine mm_goto (tgt := 9) rfl (by decide) ?_
                rw [show ed_ca (J 3) c sr sc (k + 1) i = ed_ca (J 3) c sr sc k (i + 1) from by rw [ed_ca, if_neg (fun q => h46 q.2)]]
                have K := lN_codeAt (E := E) hG hn hn2 hc hc2 hsr hsc k (i + 1) (some (.int (nI 1))) (by omega) (by omega)
                rw [ed_rc_y (Or.inr h27)] at K
                exact K
          · refine mm_iload rfl rfl ?_
            refine mm_if_eqN (tgt := 58) rfl (by decide) (by omega) (fun h51 => ?_) (fun h51 => ?_)
            · exact absurd h51 (by decide)
            · refine mm_iconst (v := nI 0) rfl (by decide) ?_
              refine mm_goto (tgt := 65) rfl (by decide) ?_
              refine mm_ireturn rfl rfl rfl (by decide) (by decide) ?_
              exact ⟨by rw [ed_ca, if_pos ⟨h40, h46⟩, if_pos h27], rfl, rfl, rfl⟩
set_option maxRecDepth 100000 in
set_option maxHeartbeats 4000000 in
theorem sN_codeAt {E : mm_E} {G : mm_G} {J : mm_J} (hG : mm_GI G) {n c sr sc : Nat} (hn : J 2 1 = nI n) (hn2 : n ≤ 100) (hc : J 66 0 = nI c) (hc2 : c ≤ 20) (hsr : sr ≤ 400) (hsc : sc ≤ 20) : mm_Ret E qN_codeAt [.ref 66, .ref 2, .int (nI sr), .int (nI sc)] 86 J G (some (.int (ed_ca (J 3) c sr sc n 0))) 86 J G := by
  refine mm_Met.of qN_codeAt_ok (by decide) (mm_cats rfl) (Nat.le_of_ble_eq_true rfl) ?_
  refine mm_iconst (v := nI 0) rfl (by decide) ?_
  refine mm_istore rfl (by decide) ?_
  refine mm_iconst (v := nI 0) rfl (by decide) ?_
  refine mm_istore rfl (by decide) ?_
  refine mm_iconst (v := nI 0) rfl (by decide) ?_
  refine mm_istore rfl (by decide) ?_
  exact lN_codeAt hG hn hn2 hc hc2 hsr hsc n 0 none rfl (by omega)
set_option maxRecDepth 100000 in
set_option maxHeartbeats 4000000 in
theorem sY_span {E : mm_E} {G : mm_G} {J : mm_J} {r : Nat} (hr : r < 2 ^ 30) : mm_Ret E qY_span [.int (nI r)] 86 J G (some (.int (nI (ed_sp r)))) 86 J G := by
  refine mm_Met.of qY_span_ok (by decide) (mm_cats rfl) (Nat.le_of_ble_eq_true rfl) ?_
  refine mm_iload_n rfl rfl ?_
  refine mm_if_neN (tgt := 8) rfl (by decide) (by omega) (fun h1 => ?_) (fun h1 => ?_)
  · refine mm_iload_n rfl rfl ?_
    refine mm_sipush (v := nI 289) rfl (by decide) ?_
    refine mm_iremN rfl (by omega) (by omega) (by omega) ?_
    refine mm_if_neN (tgt := 20) rfl (by decide) (by omega) (fun h13 => ?_) (fun h13 => ?_)
    · refine mm_iload_n rfl rfl ?_
      refine mm_bipush (v := nI 17) rfl (by decide) ?_
      refine mm_iremN rfl (by omega) (by omega) (by omega) ?_
      refine mm_if_neN (tgt := 32) rfl (by decide) (by omega) (fun h24 => ?_) (fun h24 => ?_)
      · refine mm_iconst (v := nI 1) rfl (by decide) ?_
        refine mm_ireturn rfl rfl rfl (by decide) (by decide) ?_
        exact ⟨by rw [show ed_sp r = 1 from by unfold ed_sp; (repeat' split) <;> omega], rfl, rfl, rfl⟩
      · refine mm_bipush (v := nI 17) rfl (by decide) ?_
        refine mm_goto (tgt := 33) rfl (by decide) ?_
        refine mm_ireturn rfl rfl rfl (by decide) (by decide) ?_
        exact ⟨by rw [show ed_sp r = 17 from by unfold ed_sp; (repeat' split) <;> omega], rfl, rfl, rfl⟩
    · refine mm_sipush (v := nI 289) rfl (by decide) ?_
      refine mm_ireturn rfl rfl rfl (by decide) (by decide) ?_
      exact ⟨by rw [show ed_sp r = 289 from by unfold ed_sp; (repeat' split) <;> omega], rfl, rfl, rfl⟩
  · refine mm_sipush (v := nI 4913) rfl (by decide) ?_
    refine mm_ireturn rfl rfl rfl (by decide) (by decide) ?_
    exact ⟨by rw [show ed_sp r = 4913 from by unfold ed_sp; (repeat' split) <;> omega], rfl, rfl, rfl⟩
set_option maxRecDepth 100000 in
set_option maxHeartbeats 4000000 in
theorem sY_isLonger {E : mm_E} {G : mm_G} {J : mm_J} {r b : Nat} (hr : r < 2 ^ 30) (hb : b < 2 ^ 30) : mm_Ret E qY_isLonger [.int (nI r), .int (nI b)] 86 J G (some (.int (nI (ed_b (ed_lg r b))))) 86 J G := by
  refine mm_Met.of qY_isLonger_ok (by decide) (mm_cats rfl) (Nat.le_of_ble_eq_true rfl) ?_
  have hsp := ed_sp_le b
  refine mm_iload_n rfl rfl ?_
  refine mm_iload_n rfl rfl ?_
  refine mm_icmp_leN (tgt := 19) rfl (by decide) (by omega) (by omega) (fun h2 => ?_) (fun h2 => ?_)
  · refine mm_iconst (v := nI 0) rfl (by decide) ?_
    refine mm_ireturn rfl rfl rfl (by decide) (by decide) ?_
    exact ⟨by rw [show ed_lg r b = false from by simp only [ed_lg, decide_eq_false_iff_not]; omega]; rfl, rfl, rfl, rfl⟩
  · refine mm_iload_n rfl rfl ?_
    refine mm_iload_n rfl rfl ?_
    refine mm_iload_n rfl rfl ?_
    refine mm_isS1 (M2 := qY_span) wd_284 qY_span_k (by decide) (sY_span hb) (Nat.le_of_ble_eq_true rfl) (by decide) (by decide) rfl (by decide) ?_
    refine mm_iaddN rfl ?_
    refine mm_icmp_geN (tgt := 19) rfl (by decide) (by omega) (by omega) (fun h12 => ?_) (fun h12 => ?_)
    · refine mm_iconst (v := nI 0) rfl (by decide) ?_
      refine mm_ireturn rfl rfl rfl (by decide) (by decide) ?_
      exact ⟨by rw [show ed_lg r b = false from by simp only [ed_lg, decide_eq_false_iff_not]; omega]; rfl, rfl, rfl, rfl⟩
    · refine mm_iconst (v := nI 1) rfl (by decide) ?_
      refine mm_goto (tgt := 20) rfl (by decide) ?_
      refine mm_ireturn rfl rfl rfl (by decide) (by decide) ?_
      exact ⟨by rw [show ed_lg r b = true from by simp only [ed_lg, decide_eq_true_eq]; omega]; rfl, rfl, rfl, rfl⟩
set_option maxRecDepth 100000 in
set_option maxHeartbeats 4000000 in
theorem sY_join {E : mm_E} {G : mm_G} {J : mm_J} {a b1 c1 : Nat} {sb sc : Int32} (hb : sb + nI 1 = nI b1) (hc : sc + nI 1 = nI c1) : mm_Ret E qY_join [.int (nI a), .int sb, .int sc] 86 J G (some (.int (nI ((a + 1) * 289 + b1 * 17 + c1)))) 86 J G := by
  refine mm_Met.of qY_join_ok (by decide) (mm_cats rfl) (Nat.le_of_ble_eq_true rfl) ?_
  refine mm_iload_n rfl rfl ?_
  refine mm_iconst (v := nI 1) rfl (by decide) ?_
  refine mm_iaddN rfl ?_
  refine mm_sipush (v := nI 289) rfl (by decide) ?_
  refine mm_imulN rfl ?_
  refine mm_iload_n rfl rfl ?_
  refine mm_iconst (v := nI 1) rfl (by decide) ?_
  refine mm_iadd rfl ?_
  rw [hb]
  refine mm_bipush (v := nI 17) rfl (by decide) ?_
  refine mm_imulN rfl ?_
  refine mm_iaddN rfl ?_
  refine mm_iload_n rfl rfl ?_
  refine mm_iadd rfl ?_
  refine mm_iconst (v := nI 1) rfl (by decide) ?_
  refine mm_iadd rfl ?_
  rw [Int32.add_assoc, hc, nI_add]
  refine mm_ireturn rfl rfl rfl (by decide) (by decide) ?_
  exact ⟨rfl, rfl, rfl, rfl⟩
set_option maxRecDepth 100000 in
set_option maxHeartbeats 4000000 in
theorem sY_pendingCount {E : mm_E} {G : mm_G} {J : mm_J} {r : Nat} (hr : r < 2 ^ 30) (hp : J 60 3 = nI r) : mm_Ret E qY_pendingCount [.ref 60] 86 J G (some (.int (nI (if ed_sp r = 4913 then 0 else if ed_sp r = 289 then 1 else 2)))) 86 J G := by
  refine mm_Met.of qY_pendingCount_ok (by decide) (mm_cats rfl) (Nat.le_of_ble_eq_true rfl) ?_
  have hsp := ed_sp_le r
  refine mm_aload_n rfl rfl ?_
  refine mm_getI (x := nI r) rfl rfl rfl (by decide) rfl hp ?_
  refine mm_isS1 (M2 := qY_span) wd_284 qY_span_k (by decide) (sY_span hr) (Nat.le_of_ble_eq_true rfl) (by decide) (by decide) rfl (by decide) ?_
  refine mm_istore_n rfl (by decide) ?_
  refine mm_iload_n rfl rfl ?_
  refine mm_sipush (v := nI 4913) rfl (by decide) ?_
  refine mm_icmp_neN (tgt := 17) rfl (by decide) (by omega) (by omega) (fun h12 => ?_) (fun h12 => ?_)
  · refine mm_iload_n rfl rfl ?_
    refine mm_sipush (v := nI 289) rfl (by decide) ?_
    refine mm_icmp_neN (tgt := 28) rfl (by decide) (by omega) (by omega) (fun h21 => ?_) (fun h21 => ?_)
    · refine mm_iconst (v := nI 2) rfl (by decide) ?_
      refine mm_ireturn rfl rfl rfl (by decide) (by decide) ?_
      exact ⟨by rw [if_neg h12, if_neg h21], rfl, rfl, rfl⟩
    · refine mm_iconst (v := nI 1) rfl (by decide) ?_
      refine mm_goto (tgt := 29) rfl (by decide) ?_
      refine mm_ireturn rfl rfl rfl (by decide) (by decide) ?_
      exact ⟨by rw [if_neg h12, if_pos h21], rfl, rfl, rfl⟩
  · refine mm_iconst (v := nI 0) rfl (by decide) ?_
    refine mm_ireturn rfl rfl rfl (by decide) (by decide) ?_
    exact ⟨by rw [if_pos h12], rfl, rfl, rfl⟩
end
section
def ed_ky (k : Int32) : Bool := decide (0 ≤ k ∧ k ≤ nI 15)
def ed_kn (k : Int32) : Bool := decide (k = -1) || ed_ky k
set_option maxRecDepth 100000 in
set_option maxHeartbeats 4000000 in
theorem sE_finish {E : mm_E} {G : mm_G} {J : mm_J} {c : Int32} : mm_Ret E qE_finish [.ref 0, .int c] 86 J G none 86 (mm_set (mm_set J 0 8 c) 0 7 (nI 1)) G := by
  refine mm_Met.of qE_finish_ok (by decide) (mm_cats rfl) (Nat.le_of_ble_eq_true rfl) ?_
  refine mm_aload_n rfl rfl ?_
  refine mm_iload_n rfl rfl ?_
  refine mm_putI rfl rfl rfl (by decide) rfl (Or.inl rfl) rfl rfl ?_
  refine mm_aload_n rfl rfl ?_
  refine mm_iconst (v := nI 1) rfl (by decide) ?_
  refine mm_putI rfl rfl rfl (by decide) rfl (Or.inl rfl) rfl rfl ?_
  refine mm_return rfl rfl (by decide) (by decide) ?_
  exact ⟨rfl, rfl, rfl, rfl⟩
set_option maxRecDepth 100000 in
set_option maxHeartbeats 4000000 in
theorem sE_moveTo {E : mm_E} {G : mm_G} {J : mm_J} (hG : mm_GI G) {c : Int32} : mm_Ret E qE_moveTo [.ref 0, .int c] 86 J G (some (.int (nI 0))) 86 (mm_set J 1 3 c) G := by
  refine mm_Met.of qE_moveTo_ok (by decide) (mm_cats rfl) (Nat.le_of_ble_eq_true rfl) ?_
  refine mm_aload_n rfl rfl ?_
  refine mm_getR rfl rfl rfl (by decide) rfl (mm_gi hG 0 0 1 (by decide)) ?_
  refine mm_iload_n rfl rfl ?_
  refine mm_putI rfl rfl rfl (by decide) rfl (Or.inl rfl) rfl rfl ?_
  refine mm_iconst (v := nI 0) rfl (by decide) ?_
  refine mm_ireturn rfl rfl rfl (by decide) (by decide) ?_
  exact ⟨rfl, rfl, rfl, rfl⟩
set_option maxRecDepth 100000 in
set_option maxHeartbeats 4000000 in
theorem sE_setMark {E : mm_E} {G : mm_G} {J : mm_J} (hG : mm_GI G) {c : Int32} : mm_Ret E qE_setMark [.ref 0, .int c] 86 J G (some (.int (nI 0))) 86 (mm_set J 4 4 c) G := by
  refine mm_Met.of qE_setMark_ok (by decide) (mm_cats rfl) (Nat.le_of_ble_eq_true rfl) ?_
  refine mm_aload_n rfl rfl ?_
  refine mm_getR rfl rfl rfl (by decide) rfl (mm_gi hG 0 0 1 (by decide)) ?_
  refine mm_getR rfl rfl rfl (by decide) rfl (mm_gi hG 1 1 4 (by decide)) ?_
  refine mm_iconst (v := nI 4) rfl (by decide) ?_
  refine mm_iload_n rfl rfl ?_
  refine mm_wrN rfl (by decide) rfl (by decide) (by decide) (by decide) rfl ?_
  refine mm_iconst (v := nI 0) rfl (by decide) ?_
  refine mm_ireturn rfl rfl rfl (by decide) (by decide) ?_
  exact ⟨rfl, rfl, rfl, rfl⟩
set_option maxRecDepth 100000 in
set_option maxHeartbeats 4000000 in
theorem sE_isKey {E : mm_E} {G : mm_G} {J : mm_J} {k : Int32} : mm_Ret E qE_isKey [.int k] 86 J G (some (.int (nI (ed_b (ed_ky k))))) 86 J G := by
  refine mm_Met.of qE_isKey_ok (by decide) (mm_cats rfl) (Nat.le_of_ble_eq_true rfl) ?_
  refine mm_iload_n rfl rfl ?_
  refine mm_if_lt (tgt := 14) rfl (by decide) (fun h1 => ?_) (fun h1 => ?_)
  · refine mm_iconst (v := nI 0) rfl (by decide) ?_
    refine mm_ireturn rfl rfl rfl (by decide) (by decide) ?_
    exact ⟨by rw [show ed_ky k = false from by simp only [ed_ky, decide_eq_false_iff_not]; exact fun q => absurd q.1 (Int32.not_le.mpr h1)]; rfl, rfl, rfl, rfl⟩
  · refine mm_iload_n rfl rfl ?_
    refine mm_bipush (v := nI 15) rfl (by decide) ?_
    refine mm_icmp_gt (tgt := 14) rfl (by decide) (fun h7 => ?_) (fun h7 => ?_)
    · refine mm_iconst (v := nI 0) rfl (by decide) ?_
      refine mm_ireturn rfl rfl rfl (by decide) (by decide) ?_
      exact ⟨by rw [show ed_ky k = false from by simp only [ed_ky, decide_eq_false_iff_not]; exact fun q => absurd q.2 (Int32.not_le.mpr h7)]; rfl, rfl, rfl, rfl⟩
    · refine mm_iconst (v := nI 1) rfl (by decide) ?_
      refine mm_goto (tgt := 15) rfl (by decide) ?_
      refine mm_ireturn rfl rfl rfl (by decide) (by decide) ?_
      exact ⟨by rw [show ed_ky k = true from by simp only [ed_ky, decide_eq_true_eq]; exact ⟨Int32.not_lt.mp h1, Int32.not_lt.mp h7⟩]; rfl, rfl, rfl, rfl⟩
set_option maxRecDepth 100000 in
set_option maxHeartbeats 4000000 in
theorem sE_isKeyOrNone {E : mm_E} {G : mm_G} {J : mm_J} {k : Int32} : mm_Ret E qE_isKeyOrNone [.int k] 86 J G (some (.int (nI (ed_b (ed_kn k))))) 86 J G := by
  refine mm_Met.of qE_isKeyOrNone_ok (by decide) (mm_cats rfl) (Nat.le_of_ble_eq_true rfl) ?_
  refine mm_iload_n rfl rfl ?_
  refine mm_iconst (v := -1) rfl (by decide) ?_
  refine mm_icmp_eq (tgt := 12) rfl (by decide) (fun h2 => ?_) (fun h2 => ?_)
  · refine mm_iconst (v := nI 1) rfl (by decide) ?_
    refine mm_goto (tgt := 17) rfl (by decide) ?_
    refine mm_ireturn rfl rfl rfl (by decide) (by decide) ?_
    exact ⟨by rw [show ed_kn k = true from by unfold ed_kn; simp [h2]]; rfl, rfl, rfl, rfl⟩
  · refine mm_iload_n rfl rfl ?_
    refine mm_isS1 (M2 := qE_isKey) wd_420 qE_isKey_k (by decide) sE_isKey (Nat.le_of_ble_eq_true rfl) (by decide) (by decide) rfl (by decide) ?_
    refine mm_if_eqN (tgt := 16) rfl (by decide) (ed_b31 _) (fun h9 => ?_) (fun h9 => ?_)
    · refine mm_iconst (v := nI 0) rfl (by decide) ?_
      refine mm_ireturn rfl rfl rfl (by decide) (by decide) ?_
      exact ⟨by rw [show ed_kn k = false from by unfold ed_kn; rw [ed_beq h9]; simp [h2]]; rfl, rfl, rfl, rfl⟩
    · refine mm_iconst (v := nI 1) rfl (by decide) ?_
      refine mm_goto (tgt := 17) rfl (by decide) ?_
      refine mm_ireturn rfl rfl rfl (by decide) (by decide) ?_
      exact ⟨by rw [show ed_kn k = true from by unfold ed_kn; rw [ed_bne h9]; simp]; rfl, rfl, rfl, rfl⟩
set_option maxRecDepth 100000 in
set_option maxHeartbeats 4000000 in
theorem sE_argument0 {E : mm_E} {G : mm_G} {J : mm_J} {x : Int32} (h : x < nI 1 ∨ nI 9 < x) : mm_Ret E qE_argument [.ref 0, .int x] 86 J G (some (.int (-1))) 86 J G := by
  refine mm_Met.of qE_argument_ok (by decide) (mm_cats rfl) (Nat.le_of_ble_eq_true rfl) ?_
  refine mm_iload_n rfl rfl ?_
  refine mm_iconst (v := nI 1) rfl (by decide) ?_
  refine mm_icmp_lt (tgt := 11) rfl (by decide) (fun h2 => ?_) (fun h2 => ?_)
  · refine mm_iconst (v := -1) rfl (by decide) ?_
    refine mm_ireturn rfl rfl rfl (by decide) (by decide) ?_
    exact ⟨rfl, rfl, rfl, rfl⟩
  · refine mm_iload_n rfl rfl ?_
    refine mm_bipush (v := nI 9) rfl (by decide) ?_
    refine mm_icmp_le (tgt := 13) rfl (by decide) (fun h8 => ?_) (fun h8 => ?_)
    · exact h.elim (fun q => absurd q h2) (fun q => absurd h8 (Int32.not_le.mpr q))
    · refine mm_iconst (v := -1) rfl (by decide) ?_
      refine mm_ireturn rfl rfl rfl (by decide) (by decide) ?_
      exact ⟨rfl, rfl, rfl, rfl⟩
set_option maxRecDepth 100000 in
set_option maxHeartbeats 4000000 in
theorem sE_argument1 {E : mm_E} {G : mm_G} {J : mm_J} {x : Nat} (h1 : 1 ≤ x) (h9 : x ≤ 9) : mm_Ret E qE_argument [.ref 0, .int (nI x)] 86 J G (some (.int (nI 0))) 86 (mm_set J 0 7 (nI x)) G := by
  refine mm_Met.of qE_argument_ok (by decide) (mm_cats rfl) (Nat.le_of_ble_eq_true rfl) ?_
  refine mm_iload_n rfl rfl ?_
  refine mm_iconst (v := nI 1) rfl (by decide) ?_
  refine mm_icmp_ltN (tgt := 11) rfl (by decide) (by omega) (by omega) (fun h2 => ?_) (fun h2 => ?_)
  · exact absurd h2 (by omega)
  · refine mm_iload_n rfl rfl ?_
    refine mm_bipush (v := nI 9) rfl (by decide) ?_
    refine mm_icmp_leN (tgt := 13) rfl (by decide) (by omega) (by omega) (fun h8 => ?_) (fun h8 => ?_)
    · refine mm_aload_n rfl rfl ?_
      refine mm_iload_n rfl rfl ?_
      refine mm_putI rfl rfl rfl (by decide) rfl (Or.inl rfl) rfl rfl ?_
      refine mm_iconst (v := nI 0) rfl (by decide) ?_
      refine mm_ireturn rfl rfl rfl (by decide) (by decide) ?_
      exact ⟨rfl, rfl, rfl, rfl⟩
    · exact absurd h8 (by omega)
set_option maxRecDepth 100000 in
set_option maxHeartbeats 4000000 in
theorem sE_macro0 {E : mm_E} {G : mm_G} {J : mm_J} (hG : mm_GI G) {rc : Nat} (hr : J 63 3 = nI rc) (hr2 : rc < 2) : mm_Ret E qE_macro [.ref 0, .int (nI rc)] 86 J G (some (.int (-1))) 86 J G := by
  refine mm_Met.of qE_macro_ok (by decide) (mm_cats rfl) (Nat.le_of_ble_eq_true rfl) ?_
  refine mm_iload_n rfl rfl ?_
  refine mm_aload_n rfl rfl ?_
  refine mm_getR rfl rfl rfl (by decide) rfl (mm_gi hG 0 4 63 (by decide)) ?_
  refine mm_getI (x := nI rc) rfl rfl rfl (by decide) rfl hr ?_
  refine mm_icmp_neN (tgt := 13) rfl (by decide) (by omega) (by omega) (fun h8 => ?_) (fun h8 => ?_)
  · exact absurd rfl h8
  · refine mm_iconst (v := -1) rfl (by decide) ?_
    refine mm_ireturn rfl rfl rfl (by decide) (by decide) ?_
    exact ⟨rfl, rfl, rfl, rfl⟩
set_option maxRecDepth 100000 in
set_option maxHeartbeats 4000000 in
theorem sE_macro1 {E : mm_E} {G : mm_G} {J : mm_J} (hG : mm_GI G) (hr : J 63 3 = nI 0) : mm_Ret E qE_macro [.ref 0, .int (nI 1)] 86 J G (some (.int (nI 0))) 86 (mm_set (mm_set J 63 3 (nI 1)) 63 2 (nI 0)) G := by
  refine mm_Met.of qE_macro_ok (by decide) (mm_cats rfl) (Nat.le_of_ble_eq_true rfl) ?_
  refine mm_iload_n rfl rfl ?_
  refine mm_aload_n rfl rfl ?_
  refine mm_getR rfl rfl rfl (by decide) rfl (mm_gi hG 0 4 63 (by decide)) ?_
  refine mm_getI (x := nI 0) rfl rfl rfl (by decide) rfl hr ?_
  refine mm_icmp_neN (tgt := 13) rfl (by decide) (by decide) (by decide) (fun h8 => ?_) (fun h8 => ?_)
  · refine mm_aload_n rfl rfl ?_
    refine mm_getR rfl rfl rfl (by decide) rfl (mm_gi hG 0 4 63 (by decide)) ?_
    refine mm_iload_n rfl rfl ?_
    refine mm_putI rfl rfl rfl (by decide) rfl (Or.inl rfl) rfl rfl ?_
    refine mm_iload_n rfl rfl ?_
    refine mm_if_eqN (tgt := 35) rfl (by decide) (by decide) (fun h22 => ?_) (fun h22 => ?_)
    · exact absurd h22 (by decide)
    · refine mm_aload_n rfl rfl ?_
      refine mm_getR rfl rfl rfl (by decide) rfl (mm_gi hG 0 4 63 (by decide)) ?_
      refine mm_iconst (v := nI 0) rfl (by decide) ?_
      refine mm_putI rfl rfl rfl (by decide) rfl (Or.inl rfl) rfl rfl ?_
      refine mm_iconst (v := nI 0) rfl (by decide) ?_
      refine mm_ireturn rfl rfl rfl (by decide) (by decide) ?_
      exact ⟨rfl, rfl, rfl, rfl⟩
  · exact absurd h8 (by decide)
set_option maxRecDepth 100000 in
set_option maxHeartbeats 4000000 in
theorem sE_macro2 {E : mm_E} {G : mm_G} {J : mm_J} (hG : mm_GI G) (hr : J 63 3 = nI 1) : mm_Ret E qE_macro [.ref 0, .int (nI 0)] 86 J G (some (.int (J 63 2))) 86 (mm_set J 63 3 (nI 0)) G := by
  refine mm_Met.of qE_macro_ok (by decide) (mm_cats rfl) (Nat.le_of_ble_eq_true rfl) ?_
  refine mm_iload_n rfl rfl ?_
  refine mm_aload_n rfl rfl ?_
  refine mm_getR rfl rfl rfl (by decide) rfl (mm_gi hG 0 4 63 (by decide)) ?_
  refine mm_getI (x := nI 1) rfl rfl rfl (by decide) rfl hr ?_
  refine mm_icmp_neN (tgt := 13) rfl (by decide) (by decide) (by decide) (fun h8 => ?_) (fun h8 => ?_)
  · refine mm_aload_n rfl rfl ?_
    refine mm_getR rfl rfl rfl (by decide) rfl (mm_gi hG 0 4 63 (by decide)) ?_
    refine mm_iload_n rfl rfl ?_
    refine mm_putI rfl rfl rfl (by decide) rfl (Or.inl rfl) rfl rfl ?_
    refine mm_iload_n rfl rfl ?_
    refine mm_if_eqN (tgt := 35) rfl (by decide) (by decide) (fun h22 => ?_) (fun h22 => ?_)
    · refine mm_aload_n rfl rfl ?_
      refine mm_getR rfl rfl rfl (by decide) rfl (mm_gi hG 0 4 63 (by decide)) ?_
      refine mm_getI rfl rfl rfl (by decide) rfl rfl ?_
      refine mm_ireturn rfl rfl rfl (by decide) (by decide) ?_
      exact ⟨rfl, rfl, rfl, rfl⟩
    · exact absurd rfl h22
  · exact absurd h8 (by decide)
set_option maxRecDepth 100000 in
set_option maxHeartbeats 4000000 in
theorem sE_marker0 {E : mm_E} {G : mm_G} {J : mm_J} {x fo : Int32} (h : x < 0 ∨ nI 4 ≤ x) : mm_Ret E qE_marker [.ref 0, .int x, .int fo] 86 J G (some (.int (-1))) 86 J G := by
  refine mm_Met.of qE_marker_ok (by decide) (mm_cats rfl) (Nat.le_of_ble_eq_true rfl) ?_
  refine mm_iload_n rfl rfl ?_
  refine mm_if_lt (tgt := 9) rfl (by decide) (fun h1 => ?_) (fun h1 => ?_)
  · refine mm_iconst (v := -1) rfl (by decide) ?_
    refine mm_ireturn rfl rfl rfl (by decide) (by decide) ?_
    exact ⟨rfl, rfl, rfl, rfl⟩
  · refine mm_iload_n rfl rfl ?_
    refine mm_iconst (v := nI 4) rfl (by decide) ?_
    refine mm_icmp_lt (tgt := 11) rfl (by decide) (fun h6 => ?_) (fun h6 => ?_)
    · exact h.elim (fun q => absurd q h1) (fun q => absurd h6 (Int32.not_lt.mpr q))
    · refine mm_iconst (v := -1) rfl (by decide) ?_
      refine mm_ireturn rfl rfl rfl (by decide) (by decide) ?_
      exact ⟨rfl, rfl, rfl, rfl⟩
set_option maxRecDepth 100000 in
set_option maxHeartbeats 4000000 in
theorem sE_marker1 {E : mm_E} {G : mm_G} {J : mm_J} (hG : mm_GI G) {x : Nat} {fo : Int32} (h : x < 4) (hf : narrow .boolean (.int fo) = .int fo) : mm_Ret E qE_marker [.ref 0, .int (nI x), .int fo] 86 J G (some (.int (nI 0))) 86 (mm_set (mm_set J 4 x (J 1 3)) 5 x fo) G := by
  refine mm_Met.of qE_marker_ok (by decide) (mm_cats rfl) (Nat.le_of_ble_eq_true rfl) ?_
  refine mm_iload_n rfl rfl ?_
  refine mm_if_ltN (tgt := 9) rfl (by decide) (by omega) ?_
  refine mm_iload_n rfl rfl ?_
  refine mm_iconst (v := nI 4) rfl (by decide) ?_
  refine mm_icmp_ltN (tgt := 11) rfl (by decide) (by omega) (by omega) (fun h6 => ?_) (fun h6 => ?_)
  · refine mm_aload_n rfl rfl ?_
    refine mm_getR rfl rfl rfl (by decide) rfl (mm_gi hG 0 0 1 (by decide)) ?_
    refine mm_getR rfl rfl rfl (by decide) rfl (mm_gi hG 1 1 4 (by decide)) ?_
    refine mm_iload_n rfl rfl ?_
    refine mm_aload_n rfl rfl ?_
    refine mm_getR rfl rfl rfl (by decide) rfl (mm_gi hG 0 0 1 (by decide)) ?_
    refine mm_getI rfl rfl rfl (by decide) rfl rfl ?_
    refine mm_wrN rfl (by decide) rfl (by decide) (by omega) (by decide) rfl ?_
    refine mm_aload_n rfl rfl ?_
    refine mm_getR rfl rfl rfl (by decide) rfl (mm_gi hG 0 0 1 (by decide)) ?_
    refine mm_getR rfl rfl rfl (by decide) rfl (mm_gi hG 1 2 5 (by decide)) ?_
    refine mm_iload_n rfl rfl ?_
    refine mm_iload_n rfl rfl ?_
    refine mm_wzN rfl (by decide) rfl (by decide) (by omega) (by decide) hf rfl ?_
    refine mm_iconst (v := nI 0) rfl (by decide) ?_
    refine mm_ireturn rfl rfl rfl (by decide) (by decide) ?_
    exact ⟨rfl, rfl, rfl, rfl⟩
  · exact absurd h6 (by omega)
set_option maxRecDepth 100000 in
set_option maxHeartbeats 4000000 in
theorem sE_frame0 {E : mm_E} {G : mm_G} {J : mm_J} (hG : mm_GI G) {c r : Int32} (h : ¬ (nI 4 ≤ c ∧ c ≤ nI 20 ∧ nI 2 ≤ r ∧ r ≤ nI 6)) : mm_Ret E qE_frame [.ref 0, .int c, .int r] 86 J G (some (.int (-1))) 86 J G := by
  refine mm_Met.of qE_frame_ok (by decide) (mm_cats rfl) (Nat.le_of_ble_eq_true rfl) ?_
  refine mm_aload_n rfl rfl ?_
  refine mm_getR rfl rfl rfl (by decide) rfl (mm_gi hG 0 5 66 (by decide)) ?_
  refine mm_iload_n rfl rfl ?_
  refine mm_iload_n rfl rfl ?_
  refine mm_isV2 (M2 := qN_resize) wd_453 qN_resize_k (by decide) (sN_resize0 h) rfl (by decide) (Nat.le_of_ble_eq_true rfl) (by decide) (by decide) rfl (by decide) ?_
  refine mm_ireturn rfl rfl rfl (by decide) (by decide) ?_
  exact ⟨rfl, rfl, rfl, rfl⟩
set_option maxRecDepth 100000 in
set_option maxHeartbeats 4000000 in
theorem sE_frame1 {E : mm_E} {G : mm_G} {J : mm_J} (hG : mm_GI G) {c r : Nat} (h1 : 4 ≤ c) (h2 : c ≤ 20) (h3 : 2 ≤ r) (h4 : r ≤ 6) : mm_Ret E qE_frame [.ref 0, .int (nI c), .int (nI r)] 86 J G (some (.int (nI 0))) 86 (mm_set (mm_set (mm_set J 66 0 (nI c)) 66 1 (nI r)) 66 2 (nI 0)) G := by
  refine mm_Met.of qE_frame_ok (by decide) (mm_cats rfl) (Nat.le_of_ble_eq_true rfl) ?_
  refine mm_aload_n rfl rfl ?_
  refine mm_getR rfl rfl rfl (by decide) rfl (mm_gi hG 0 5 66 (by decide)) ?_
  refine mm_iload_n rfl rfl ?_
  refine mm_iload_n rfl rfl ?_
  refine mm_isV2 (M2 := qN_resize) wd_453 qN_resize_k (by decide) (sN_resize1 h1 h2 h3 h4) rfl (by decide) (Nat.le_of_ble_eq_true rfl) (by decide) (by decide) rfl (by decide) ?_
  refine mm_ireturn rfl rfl rfl (by decide) (by decide) ?_
  exact ⟨rfl, rfl, rfl, rfl⟩
set_option maxRecDepth 100000 in
set_option maxHeartbeats 4000000 in
theorem sE_character0 {E : mm_E} {G : mm_G} {J : mm_J} (hG : mm_GI G) {n : Nat} (hn : J 2 1 = nI n) (hn2 : n ≤ 100) {x : Int32} (h : x < 0 ∨ nI n ≤ x) : mm_Ret E qE_character [.ref 0, .int x] 86 J G (some (.int (-1))) 86 J G := by
  refine mm_Met.of qE_character_ok (by decide) (mm_cats rfl) (Nat.le_of_ble_eq_true rfl) ?_
  refine mm_iload_n rfl rfl ?_
  refine mm_if_lt (tgt := 18) rfl (by decide) (fun h1 => ?_) (fun h1 => ?_)
  · refine mm_iconst (v := -1) rfl (by decide) ?_
    refine mm_ireturn rfl rfl rfl (by decide) (by decide) ?_
    exact ⟨rfl, rfl, rfl, rfl⟩
  · refine mm_iload_n rfl rfl ?_
    refine mm_aload_n rfl rfl ?_
    refine mm_getR rfl rfl rfl (by decide) rfl (mm_gi hG 0 0 1 (by decide)) ?_
    refine mm_getR rfl rfl rfl (by decide) rfl (mm_gi hG 1 0 2 (by decide)) ?_
    refine mm_getI (x := nI n) rfl rfl rfl (by decide) rfl hn ?_
    refine mm_icmp_lt (tgt := 20) rfl (by decide) (fun h15 => ?_) (fun h15 => ?_)
    · exact h.elim (fun q => absurd q h1) (fun q => absurd h15 (Int32.not_lt.mpr q))
    · refine mm_iconst (v := -1) rfl (by decide) ?_
      refine mm_ireturn rfl rfl rfl (by decide) (by decide) ?_
      exact ⟨rfl, rfl, rfl, rfl⟩
set_option maxRecDepth 100000 in
set_option maxHeartbeats 4000000 in
theorem sE_character1 {E : mm_E} {G : mm_G} {J : mm_J} (hG : mm_GI G) {n : Nat} (hn : J 2 1 = nI n) (hn2 : n ≤ 100) {x : Nat} (h : x < n) : mm_Ret E qE_character [.ref 0, .int (nI x)] 86 J G (some (.int (J 3 x))) 86 J G := by
  refine mm_Met.of qE_character_ok (by decide) (mm_cats rfl) (Nat.le_of_ble_eq_true rfl) ?_
  refine mm_iload_n rfl rfl ?_
  refine mm_if_ltN (tgt := 18) rfl (by decide) (by omega) ?_
  refine mm_iload_n rfl rfl ?_
  refine mm_aload_n rfl rfl ?_
  refine mm_getR rfl rfl rfl (by decide) rfl (mm_gi hG 0 0 1 (by decide)) ?_
  refine mm_getR rfl rfl rfl (by decide) rfl (mm_gi hG 1 0 2 (by decide)) ?_
  refine mm_getI (x := nI n) rfl rfl rfl (by decide) rfl hn ?_
  refine mm_icmp_ltN (tgt := 20) rfl (by decide) (by omega) (by omega) (fun h15 => ?_) (fun h15 => ?_)
  · refine mm_aload_n rfl rfl ?_
    refine mm_getR rfl rfl rfl (by decide) rfl (mm_gi hG 0 0 1 (by decide)) ?_
    refine mm_getR rfl rfl rfl (by decide) rfl (mm_gi hG 1 0 2 (by decide)) ?_
    refine mm_getR rfl rfl rfl (by decide) rfl (mm_gi hG 2 0 3 (by decide)) ?_
    refine mm_iload_n rfl rfl ?_
    refine mm_rdN rfl (by decide) rfl (by decide) (by omega) (by decide) rfl rfl ?_
    refine mm_ireturn rfl rfl rfl (by decide) (by decide) ?_
    exact ⟨rfl, rfl, rfl, rfl⟩
  · exact absurd h15 (by omega)
set_option maxRecDepth 100000 in
set_option maxHeartbeats 4000000 in
theorem sE_markerAt0 {E : mm_E} {G : mm_G} {J : mm_J} {x : Int32} (h : x < 0 ∨ nI 4 ≤ x) : mm_Ret E qE_markerAt [.ref 0, .int x] 86 J G (some (.int (-1))) 86 J G := by
  refine mm_Met.of qE_markerAt_ok (by decide) (mm_cats rfl) (Nat.le_of_ble_eq_true rfl) ?_
  refine mm_iload_n rfl rfl ?_
  refine mm_if_lt (tgt := 9) rfl (by decide) (fun h1 => ?_) (fun h1 => ?_)
  · refine mm_iconst (v := -1) rfl (by decide) ?_
    refine mm_ireturn rfl rfl rfl (by decide) (by decide) ?_
    exact ⟨rfl, rfl, rfl, rfl⟩
  · refine mm_iload_n rfl rfl ?_
    refine mm_iconst (v := nI 4) rfl (by decide) ?_
    refine mm_icmp_lt (tgt := 11) rfl (by decide) (fun h6 => ?_) (fun h6 => ?_)
    · exact h.elim (fun q => absurd q h1) (fun q => absurd h6 (Int32.not_lt.mpr q))
    · refine mm_iconst (v := -1) rfl (by decide) ?_
      refine mm_ireturn rfl rfl rfl (by decide) (by decide) ?_
      exact ⟨rfl, rfl, rfl, rfl⟩
set_option maxRecDepth 100000 in
set_option maxHeartbeats 4000000 in
theorem sE_markerAt1 {E : mm_E} {G : mm_G} {J : mm_J} (hG : mm_GI G) {x : Nat} (h : x < 4) : mm_Ret E qE_markerAt [.ref 0, .int (nI x)] 86 J G (some (.int (J 4 x))) 86 J G := by
  refine mm_Met.of qE_markerAt_ok (by decide) (mm_cats rfl) (Nat.le_of_ble_eq_true rfl) ?_
  refine mm_iload_n rfl rfl ?_
  refine mm_if_ltN (tgt := 9) rfl (by decide) (by omega) ?_
  refine mm_iload_n rfl rfl ?_
  refine mm_iconst (v := nI 4) rfl (by decide) ?_
  refine mm_icmp_ltN (tgt := 11) rfl (by decide) (by omega) (by omega) (fun h6 => ?_) (fun h6 => ?_)
  · refine mm_aload_n rfl rfl ?_
    refine mm_getR rfl rfl rfl (by decide) rfl (mm_gi hG 0 0 1 (by decide)) ?_
    refine mm_getR rfl rfl rfl (by decide) rfl (mm_gi hG 1 1 4 (by decide)) ?_
    refine mm_iload_n rfl rfl ?_
    refine mm_rdN rfl (by decide) rfl (by decide) (by omega) (by decide) rfl rfl ?_
    refine mm_ireturn rfl rfl rfl (by decide) (by decide) ?_
    exact ⟨rfl, rfl, rfl, rfl⟩
  · exact absurd h6 (by omega)
set_option maxRecDepth 100000 in
set_option maxHeartbeats 4000000 in
theorem sE_killed0 {E : mm_E} {G : mm_G} {J : mm_J} (hG : mm_GI G) {c : Nat} (hc : J 6 1 = nI c) (hc2 : c ≤ 4) {x k : Int32} (h : x < 0 ∨ nI c ≤ x ∨ k < 0) : mm_Ret E qE_killed [.ref 0, .int x, .int k] 86 J G (some (.int (-1))) 86 J G := by
  refine mm_Met.of qE_killed_ok (by decide) (mm_cats rfl) (Nat.le_of_ble_eq_true rfl) ?_
  refine mm_iload_n rfl rfl ?_
  refine mm_if_lt (tgt := 19) rfl (by decide) (fun h1 => ?_) (fun h1 => ?_)
  · refine mm_iconst (v := -1) rfl (by decide) ?_
    refine mm_ireturn rfl rfl rfl (by decide) (by decide) ?_
    exact ⟨rfl, rfl, rfl, rfl⟩
  · refine mm_iload_n rfl rfl ?_
    refine mm_aload_n rfl rfl ?_
    refine mm_getR rfl rfl rfl (by decide) rfl (mm_gi hG 0 1 6 (by decide)) ?_
    refine mm_getI (x := nI c) rfl rfl rfl (by decide) rfl hc ?_
    refine mm_icmp_ge (tgt := 19) rfl (by decide) (fun h12 => ?_) (fun h12 => ?_)
    · refine mm_iconst (v := -1) rfl (by decide) ?_
      refine mm_ireturn rfl rfl rfl (by decide) (by decide) ?_
      exact ⟨rfl, rfl, rfl, rfl⟩
    · refine mm_iload_n rfl rfl ?_
      refine mm_if_ge (tgt := 21) rfl (by decide) (fun h16 => ?_) (fun h16 => ?_)
      · exact h.elim (fun q => absurd q h1) (fun q => q.elim (fun q => absurd q h12) (fun q => absurd h16 (Int32.not_le.mpr q)))
      · refine mm_iconst (v := -1) rfl (by decide) ?_
        refine mm_ireturn rfl rfl rfl (by decide) (by decide) ?_
        exact ⟨rfl, rfl, rfl, rfl⟩
set_option maxRecDepth 100000 in
set_option maxHeartbeats 4000000 in
theorem sE_killed1 {E : mm_E} {G : mm_G} {J : mm_J} (hG : mm_GI G) {c : Nat} (hc : J 6 1 = nI c) (hc2 : c ≤ 4) {x k r l : Nat} (h : x < c) (hg : G 7 x = some r) (hr : mm_SH r = .inl 2) (hl : J r 1 = nI l) (hl2 : l ≤ 100) (hk : k < l) : mm_Ret E qE_killed [.ref 0, .int (nI x), .int (nI k)] 86 J G (some (.int (J (r + 1) k))) 86 J G := by
  refine mm_Met.of qE_killed_ok (by decide) (mm_cats rfl) (Nat.le_of_ble_eq_true rfl) ?_
  refine mm_iload_n rfl rfl ?_
  refine mm_if_ltN (tgt := 19) rfl (by decide) (by omega) ?_
  refine mm_iload_n rfl rfl ?_
  refine mm_aload_n rfl rfl ?_
  refine mm_getR rfl rfl rfl (by decide) rfl (mm_gi hG 0 1 6 (by decide)) ?_
  refine mm_getI (x := nI c) rfl rfl rfl (by decide) rfl hc ?_
  refine mm_icmp_geN (tgt := 19) rfl (by decide) (by omega) (by omega) (fun h12 => ?_) (fun h12 => ?_)
  · exact absurd h12 (by omega)
  · refine mm_iload_n rfl rfl ?_
    refine mm_if_geN (tgt := 21) rfl (by decide) (by omega) ?_
    refine mm_aload_n rfl rfl ?_
    refine mm_getR rfl rfl rfl (by decide) rfl (mm_gi hG 0 1 6 (by decide)) ?_
    refine mm_getR rfl rfl rfl (by decide) rfl (mm_gi hG 6 0 7 (by decide)) ?_
    refine mm_iload_n rfl rfl ?_
    refine mm_rrN rfl (by decide) rfl rfl (by decide) (by omega) (by decide) hg rfl ?_
    refine mm_astore_n rfl (by decide) ?_
    refine mm_iload_n rfl rfl ?_
    refine mm_aload_n rfl rfl ?_
    refine mm_getI (x := nI l) rfl rfl hr (mm_l1 hr) rfl hl ?_
    refine mm_icmp_geN (tgt := 48) rfl (by decide) (by omega) (by omega) (fun h36 => ?_) (fun h36 => ?_)
    · exact absurd h36 (by omega)
    · refine mm_aload_n rfl rfl ?_
      refine mm_getR rfl rfl hr (mm_l1 hr) rfl (hG.1 _ hr) ?_
      refine mm_iload_n rfl rfl ?_
      refine mm_rdN (mm_l2 hr) (by decide) rfl (mm_l3 hr) (by omega) (by decide) rfl rfl ?_
      refine mm_goto (tgt := 49) rfl (by decide) ?_
      refine mm_ireturn rfl rfl rfl (by decide) (by decide) ?_
      exact ⟨rfl, rfl, rfl, rfl⟩
set_option maxRecDepth 100000 in
set_option maxHeartbeats 4000000 in
theorem sE_killed2 {E : mm_E} {G : mm_G} {J : mm_J} (hG : mm_GI G) {c : Nat} (hc : J 6 1 = nI c) (hc2 : c ≤ 4) {x k r l : Nat} (h : x < c) (hg : G 7 x = some r) (hr : mm_SH r = .inl 2) (hl : J r 1 = nI l) (hl2 : l ≤ 100) (hk : l ≤ k) (hk2 : k < 2 ^ 31) : mm_Ret E qE_killed [.ref 0, .int (nI x), .int (nI k)] 86 J G (some (.int (nI 0))) 86 J G := by
  refine mm_Met.of qE_killed_ok (by decide) (mm_cats rfl) (Nat.le_of_ble_eq_true rfl) ?_
  refine mm_iload_n rfl rfl ?_
  refine mm_if_ltN (tgt := 19) rfl (by decide) (by omega) ?_
  refine mm_iload_n rfl rfl ?_
  refine mm_aload_n rfl rfl ?_
  refine mm_getR rfl rfl rfl (by decide) rfl (mm_gi hG 0 1 6 (by decide)) ?_
  refine mm_getI (x := nI c) rfl rfl rfl (by decide) rfl hc ?_
  refine mm_icmp_geN (tgt := 19) rfl (by decide) (by omega) (by omega) (fun h12 => ?_) (fun h12 => ?_)
  · exact absurd h12 (by omega)
  · refine mm_iload_n rfl rfl ?_
    refine mm_if_geN (tgt := 21) rfl (by decide) (by omega) ?_
    refine mm_aload_n rfl rfl ?_
    refine mm_getR rfl rfl rfl (by decide) rfl (mm_gi hG 0 1 6 (by decide)) ?_
    refine mm_getR rfl rfl rfl (by decide) rfl (mm_gi hG 6 0 7 (by decide)) ?_
    refine mm_iload_n rfl rfl ?_
    refine mm_rrN rfl (by decide) rfl rfl (by decide) (by omega) (by decide) hg rfl ?_
    refine mm_astore_n rfl (by decide) ?_
    refine mm_iload_n rfl rfl ?_
    refine mm_aload_n rfl rfl ?_
    refine mm_getI (x := nI l) rfl rfl hr (mm_l1 hr) rfl hl ?_
    refine mm_icmp_geN (tgt := 48) rfl (by decide) (by omega) (by omega) (fun h36 => ?_) (fun h36 => ?_)
    · refine mm_iconst (v := nI 0) rfl (by decide) ?_
      refine mm_ireturn rfl rfl rfl (by decide) (by decide) ?_
      exact ⟨rfl, rfl, rfl, rfl⟩
    · exact absurd h36 (by omega)
set_option maxRecDepth 100000 in
set_option maxHeartbeats 4000000 in
theorem sE_cell0 {E : mm_E} {G : mm_G} {J : mm_J} (hG : mm_GI G) {n q c f w : Nat} (hn : J 2 1 = nI n) (hn2 : n ≤ 100) (hq : q ≤ n) (hc : J 66 0 = nI c) (hc2 : c ≤ 20) (hp : J 1 3 = nI q) (hf : J 66 2 = nI f) (hf2 : f ≤ 200) (hw : J 66 1 = nI w) (hw2 : w ≤ 6) {x y : Int32} (h : x < 0 ∨ nI w ≤ x ∨ y < 0 ∨ nI c ≤ y) : mm_Ret E qE_cell [.ref 0, .int x, .int y] 86 J G (some (.int (-1))) 86 J G := by
  refine mm_Met.of qE_cell_ok (by decide) (mm_cats rfl) (Nat.le_of_ble_eq_true rfl) ?_
  refine mm_iload_n rfl rfl ?_
  refine mm_if_lt (tgt := 30) rfl (by decide) (fun h1 => ?_) (fun h1 => ?_)
  · refine mm_iconst (v := -1) rfl (by decide) ?_
    refine mm_ireturn rfl rfl rfl (by decide) (by decide) ?_
    exact ⟨rfl, rfl, rfl, rfl⟩
  · refine mm_iload_n rfl rfl ?_
    refine mm_aload_n rfl rfl ?_
    refine mm_getR rfl rfl rfl (by decide) rfl (mm_gi hG 0 5 66 (by decide)) ?_
    refine mm_getI (x := nI w) rfl rfl rfl (by decide) rfl hw ?_
    refine mm_icmp_ge (tgt := 30) rfl (by decide) (fun h12 => ?_) (fun h12 => ?_)
    · refine mm_iconst (v := -1) rfl (by decide) ?_
      refine mm_ireturn rfl rfl rfl (by decide) (by decide) ?_
      exact ⟨rfl, rfl, rfl, rfl⟩
    · refine mm_iload_n rfl rfl ?_
      refine mm_if_lt (tgt := 30) rfl (by decide) (fun h16 => ?_) (fun h16 => ?_)
      · refine mm_iconst (v := -1) rfl (by decide) ?_
        refine mm_ireturn rfl rfl rfl (by decide) (by decide) ?_
        exact ⟨rfl, rfl, rfl, rfl⟩
      · refine mm_iload_n rfl rfl ?_
        refine mm_aload_n rfl rfl ?_
        refine mm_getR rfl rfl rfl (by decide) rfl (mm_gi hG 0 5 66 (by decide)) ?_
        refine mm_getI (x := nI c) rfl rfl rfl (by decide) rfl hc ?_
        refine mm_icmp_lt (tgt := 32) rfl (by decide) (fun h27 => ?_) (fun h27 => ?_)
        · exact h.elim (fun q => absurd q h1) (fun q => q.elim (fun q => absurd q h12) (fun q => q.elim (fun q => absurd q h16) (fun q => absurd h27 (Int32.not_lt.mpr q))))
        · refine mm_iconst (v := -1) rfl (by decide) ?_
          refine mm_ireturn rfl rfl rfl (by decide) (by decide) ?_
          exact ⟨rfl, rfl, rfl, rfl⟩
set_option maxRecDepth 100000 in
set_option maxHeartbeats 4000000 in
theorem sE_cell1 {E : mm_E} {G : mm_G} {J : mm_J} (hG : mm_GI G) {n q c f w : Nat} (hn : J 2 1 = nI n) (hn2 : n ≤ 100) (hq : q ≤ n) (hc : J 66 0 = nI c) (hc2 : c ≤ 20) (hp : J 1 3 = nI q) (hf : J 66 2 = nI f) (hf2 : f ≤ 200) (hw : J 66 1 = nI w) (hw2 : w ≤ 6) {x y : Nat} (h1 : x < w) (h2 : y < c) : mm_Ret E qE_cell [.ref 0, .int (nI x), .int (nI y)] 86 J G (some (.int (ed_ca (J 3) c ((max (min f (ed_rc (J 3) c q).1) ((ed_rc (J 3) c q).1 + 1 - w)) + x) y n 0))) 86 (mm_set J 66 2 (nI (max (min f (ed_rc (J 3) c q).1) ((ed_rc (J 3) c q).1 + 1 - w)))) G := by
  refine mm_Met.of qE_cell_ok (by decide) (mm_cats rfl) (Nat.le_of_ble_eq_true rfl) ?_
  have hrc := ed_rc_le (J 3) c q
  refine mm_iload_n rfl rfl ?_
  refine mm_if_ltN (tgt := 30) rfl (by decide) (by omega) ?_
  refine mm_iload_n rfl rfl ?_
  refine mm_aload_n rfl rfl ?_
  refine mm_getR rfl rfl rfl (by decide) rfl (mm_gi hG 0 5 66 (by decide)) ?_
  refine mm_getI (x := nI w) rfl rfl rfl (by decide) rfl hw ?_
  refine mm_icmp_geN (tgt := 30) rfl (by decide) (by omega) (by omega) (fun h12 => ?_) (fun h12 => ?_)
  · exact absurd h12 (by omega)
  · refine mm_iload_n rfl rfl ?_
    refine mm_if_ltN (tgt := 30) rfl (by decide) (by omega) ?_
    refine mm_iload_n rfl rfl ?_
    refine mm_aload_n rfl rfl ?_
    refine mm_getR rfl rfl rfl (by decide) rfl (mm_gi hG 0 5 66 (by decide)) ?_
    refine mm_getI (x := nI c) rfl rfl rfl (by decide) rfl hc ?_
    refine mm_icmp_ltN (tgt := 32) rfl (by decide) (by omega) (by omega) (fun h27 => ?_) (fun h27 => ?_)
    · refine mm_aload_n rfl rfl ?_
      refine mm_getR rfl rfl rfl (by decide) rfl (mm_gi hG 0 5 66 (by decide)) ?_
      refine mm_aload_n rfl rfl ?_
      refine mm_getR rfl rfl rfl (by decide) rfl (mm_gi hG 0 0 1 (by decide)) ?_
      refine mm_isV1 (M2 := qN_follow) wd_473 qN_follow_k (by decide) (sN_follow hG hn hn2 hq hc hc2 hp hf hf2 hw hw2) rfl (by decide) (Nat.le_of_ble_eq_true rfl) (by decide) (by decide) rfl (by decide) ?_
      refine mm_aload_n rfl rfl ?_
      refine mm_getR rfl rfl rfl (by decide) rfl (mm_gi hG 0 5 66 (by decide)) ?_
      refine mm_aload_n rfl rfl ?_
      refine mm_getR rfl rfl rfl (by decide) rfl (mm_gi hG 0 0 1 (by decide)) ?_
      refine mm_getR rfl rfl rfl (by decide) rfl (mm_gi hG 1 0 2 (by decide)) ?_
      refine mm_aload_n rfl rfl ?_
      refine mm_getR rfl rfl rfl (by decide) rfl (mm_gi hG 0 5 66 (by decide)) ?_
      refine mm_getI (x := nI (max (min f (ed_rc (J 3) c q).1) ((ed_rc (J 3) c q).1 + 1 - w))) rfl rfl rfl (by decide) rfl (by simp [mm_set]) ?_
      refine mm_iload_n rfl rfl ?_
      refine mm_iaddN rfl ?_
      refine mm_iload_n rfl rfl ?_
      refine mm_isV3 (M2 := qN_codeAt) wd_483 qN_codeAt_k (by decide) (sN_codeAt (n := n) (c := c) hG (by simp [mm_set, hn]) hn2 (by simp [mm_set, hc]) hc2 (by omega) (by omega)) rfl (by decide) (Nat.le_of_ble_eq_true rfl) (by decide) (by decide) rfl (by decide) ?_
      refine mm_ireturn rfl rfl rfl (by decide) (by decide) ?_
      exact ⟨rfl, rfl, rfl, rfl⟩
    · exact absurd h27 (by omega)
set_option maxRecDepth 100000 in
set_option maxHeartbeats 4000000 in
theorem sE_info0 {E : mm_E} {G : mm_G} {J : mm_J} (hG : mm_GI G)  : mm_Ret E qE_info [.ref 0, .int (nI 0)] 86 J G (some (.int (J 2 1))) 86 J G := by
  refine mm_Met.of qE_info_ok (by decide) (mm_cats rfl) (Nat.le_of_ble_eq_true rfl) ?_
  refine mm_iload_n rfl rfl ?_
  refine mm_tableIn (off := 71) (tgt := 72) rfl (by decide) (by decide) rfl (by decide) ?_
  refine mm_aload_n rfl rfl ?_
  refine mm_getR rfl rfl rfl (by decide) rfl (mm_gi hG 0 0 1 (by decide)) ?_
  refine mm_getR rfl rfl rfl (by decide) rfl (mm_gi hG 1 0 2 (by decide)) ?_
  refine mm_getI rfl rfl rfl (by decide) rfl rfl ?_
  refine mm_ireturn rfl rfl rfl (by decide) (by decide) ?_
  exact ⟨rfl, rfl, rfl, rfl⟩
set_option maxRecDepth 100000 in
set_option maxHeartbeats 4000000 in
theorem sE_info1 {E : mm_E} {G : mm_G} {J : mm_J} (hG : mm_GI G)  : mm_Ret E qE_info [.ref 0, .int (nI 1)] 86 J G (some (.int (J 1 3))) 86 J G := by
  refine mm_Met.of qE_info_ok (by decide) (mm_cats rfl) (Nat.le_of_ble_eq_true rfl) ?_
  refine mm_iload_n rfl rfl ?_
  refine mm_tableIn (off := 82) (tgt := 83) rfl (by decide) (by decide) rfl (by decide) ?_
  refine mm_aload_n rfl rfl ?_
  refine mm_getR rfl rfl rfl (by decide) rfl (mm_gi hG 0 0 1 (by decide)) ?_
  refine mm_getI rfl rfl rfl (by decide) rfl rfl ?_
  refine mm_ireturn rfl rfl rfl (by decide) (by decide) ?_
  exact ⟨rfl, rfl, rfl, rfl⟩
set_option maxRecDepth 100000 in
set_option maxHeartbeats 4000000 in
theorem sE_info2 {E : mm_E} {G : mm_G} {J : mm_J} (hG : mm_GI G)  : mm_Ret E qE_info [.ref 0, .int (nI 2)] 86 J G (some (.int (J 4 4))) 86 J G := by
  refine mm_Met.of qE_info_ok (by decide) (mm_cats rfl) (Nat.le_of_ble_eq_true rfl) ?_
  refine mm_iload_n rfl rfl ?_
  refine mm_tableIn (off := 90) (tgt := 91) rfl (by decide) (by decide) rfl (by decide) ?_
  refine mm_aload_n rfl rfl ?_
  refine mm_getR rfl rfl rfl (by decide) rfl (mm_gi hG 0 0 1 (by decide)) ?_
  refine mm_getR rfl rfl rfl (by decide) rfl (mm_gi hG 1 1 4 (by decide)) ?_
  refine mm_iconst (v := nI 4) rfl (by decide) ?_
  refine mm_rdN rfl (by decide) rfl (by decide) (by decide) (by decide) rfl rfl ?_
  refine mm_ireturn rfl rfl rfl (by decide) (by decide) ?_
  exact ⟨rfl, rfl, rfl, rfl⟩
set_option maxRecDepth 100000 in
set_option maxHeartbeats 4000000 in
theorem sE_info3 {E : mm_E} {G : mm_G} {J : mm_J} (hG : mm_GI G)  : mm_Ret E qE_info [.ref 0, .int (nI 3)] 86 J G (some (.int (J 6 1))) 86 J G := by
  refine mm_Met.of qE_info_ok (by decide) (mm_cats rfl) (Nat.le_of_ble_eq_true rfl) ?_
  refine mm_iload_n rfl rfl ?_
  refine mm_tableIn (off := 100) (tgt := 101) rfl (by decide) (by decide) rfl (by decide) ?_
  refine mm_aload_n rfl rfl ?_
  refine mm_getR rfl rfl rfl (by decide) rfl (mm_gi hG 0 1 6 (by decide)) ?_
  refine mm_getI rfl rfl rfl (by decide) rfl rfl ?_
  refine mm_ireturn rfl rfl rfl (by decide) (by decide) ?_
  exact ⟨rfl, rfl, rfl, rfl⟩
set_option maxRecDepth 100000 in
set_option maxHeartbeats 4000000 in
theorem sE_info4 {E : mm_E} {G : mm_G} {J : mm_J} (hG : mm_GI G)  : mm_Ret E qE_info [.ref 0, .int (nI 4)] 86 J G (some (.int (J 16 3))) 86 J G := by
  refine mm_Met.of qE_info_ok (by decide) (mm_cats rfl) (Nat.le_of_ble_eq_true rfl) ?_
  refine mm_iload_n rfl rfl ?_
  refine mm_tableIn (off := 108) (tgt := 109) rfl (by decide) (by decide) rfl (by decide) ?_
  refine mm_aload_n rfl rfl ?_
  refine mm_getR rfl rfl rfl (by decide) rfl (mm_gi hG 0 2 16 (by decide)) ?_
  refine mm_getI rfl rfl rfl (by decide) rfl rfl ?_
  refine mm_ireturn rfl rfl rfl (by decide) (by decide) ?_
  exact ⟨rfl, rfl, rfl, rfl⟩
set_option maxRecDepth 100000 in
set_option maxHeartbeats 4000000 in
theorem sE_info5 {E : mm_E} {G : mm_G} {J : mm_J} (hG : mm_GI G) {r : Nat} (hr : r < 2 ^ 30) (hp : J 60 3 = nI r) : mm_Ret E qE_info [.ref 0, .int (nI 5)] 86 J G (some (.int (nI (if ed_sp r = 4913 then 0 else if ed_sp r = 289 then 1 else 2)))) 86 J G := by
  refine mm_Met.of qE_info_ok (by decide) (mm_cats rfl) (Nat.le_of_ble_eq_true rfl) ?_
  refine mm_iload_n rfl rfl ?_
  refine mm_tableIn (off := 116) (tgt := 117) rfl (by decide) (by decide) rfl (by decide) ?_
  refine mm_aload_n rfl rfl ?_
  refine mm_getR rfl rfl rfl (by decide) rfl (mm_gi hG 0 3 60 (by decide)) ?_
  refine mm_isV0 (M2 := qY_pendingCount) wd_491 qY_pendingCount_k (by decide) (sY_pendingCount hr hp) rfl (by decide) (Nat.le_of_ble_eq_true rfl) (by decide) (by decide) rfl (by decide) ?_
  refine mm_ireturn rfl rfl rfl (by decide) (by decide) ?_
  exact ⟨rfl, rfl, rfl, rfl⟩
set_option maxRecDepth 100000 in
set_option maxHeartbeats 4000000 in
theorem sE_info6 {E : mm_E} {G : mm_G} {J : mm_J} (hG : mm_GI G)  : mm_Ret E qE_info [.ref 0, .int (nI 6)] 86 J G (some (.int (J 63 2))) 86 J G := by
  refine mm_Met.of qE_info_ok (by decide) (mm_cats rfl) (Nat.le_of_ble_eq_true rfl) ?_
  refine mm_iload_n rfl rfl ?_
  refine mm_tableIn (off := 124) (tgt := 125) rfl (by decide) (by decide) rfl (by decide) ?_
  refine mm_aload_n rfl rfl ?_
  refine mm_getR rfl rfl rfl (by decide) rfl (mm_gi hG 0 4 63 (by decide)) ?_
  refine mm_getI rfl rfl rfl (by decide) rfl rfl ?_
  refine mm_ireturn rfl rfl rfl (by decide) (by decide) ?_
  exact ⟨rfl, rfl, rfl, rfl⟩
set_option maxRecDepth 100000 in
set_option maxHeartbeats 4000000 in
theorem sE_info7 {E : mm_E} {G : mm_G} {J : mm_J} (hG : mm_GI G) {rc : Nat} (hr : J 63 3 = nI rc) (hr2 : rc < 2) : mm_Ret E qE_info [.ref 0, .int (nI 7)] 86 J G (some (.int (nI rc))) 86 J G := by
  refine mm_Met.of qE_info_ok (by decide) (mm_cats rfl) (Nat.le_of_ble_eq_true rfl) ?_
  refine mm_iload_n rfl rfl ?_
  refine mm_tableIn (off := 132) (tgt := 133) rfl (by decide) (by decide) rfl (by decide) ?_
  refine mm_aload_n rfl rfl ?_
  refine mm_getR rfl rfl rfl (by decide) rfl (mm_gi hG 0 4 63 (by decide)) ?_
  refine mm_getI (x := nI rc) rfl rfl rfl (by decide) rfl hr ?_
  refine mm_if_eqN (tgt := 147) rfl (by decide) (by omega) (fun h140 => ?_) (fun h140 => ?_)
  · refine mm_iconst (v := nI 0) rfl (by decide) ?_
    refine mm_ireturn rfl rfl rfl (by decide) (by decide) ?_
    exact ⟨by rw [h140], rfl, rfl, rfl⟩
  · refine mm_iconst (v := nI 1) rfl (by decide) ?_
    refine mm_goto (tgt := 148) rfl (by decide) ?_
    refine mm_ireturn rfl rfl rfl (by decide) (by decide) ?_
    exact ⟨by rw [show rc = 1 by omega], rfl, rfl, rfl⟩
set_option maxRecDepth 100000 in
set_option maxHeartbeats 4000000 in
theorem sE_info8 {E : mm_E} {G : mm_G} {J : mm_J} (hG : mm_GI G)  : mm_Ret E qE_info [.ref 0, .int (nI 8)] 86 J G (some (.int (J 60 2))) 86 J G := by
  refine mm_Met.of qE_info_ok (by decide) (mm_cats rfl) (Nat.le_of_ble_eq_true rfl) ?_
  refine mm_iload_n rfl rfl ?_
  refine mm_tableIn (off := 148) (tgt := 149) rfl (by decide) (by decide) rfl (by decide) ?_
  refine mm_aload_n rfl rfl ?_
  refine mm_getR rfl rfl rfl (by decide) rfl (mm_gi hG 0 3 60 (by decide)) ?_
  refine mm_getI rfl rfl rfl (by decide) rfl rfl ?_
  refine mm_ireturn rfl rfl rfl (by decide) (by decide) ?_
  exact ⟨rfl, rfl, rfl, rfl⟩
set_option maxRecDepth 100000 in
set_option maxHeartbeats 4000000 in
theorem sE_info9 {E : mm_E} {G : mm_G} {J : mm_J} (hG : mm_GI G) {n c : Nat} (hn : J 2 1 = nI n) (hn2 : n ≤ 100) (hc : J 66 0 = nI c) (hc2 : c ≤ 20) : mm_Ret E qE_info [.ref 0, .int (nI 9)] 86 J G (some (.int (nI ((ed_rc (J 3) c n).1 + 1)))) 86 J G := by
  refine mm_Met.of qE_info_ok (by decide) (mm_cats rfl) (Nat.le_of_ble_eq_true rfl) ?_
  refine mm_iload_n rfl rfl ?_
  refine mm_tableIn (off := 156) (tgt := 157) rfl (by decide) (by decide) rfl (by decide) ?_
  refine mm_aload_n rfl rfl ?_
  refine mm_getR rfl rfl rfl (by decide) rfl (mm_gi hG 0 5 66 (by decide)) ?_
  refine mm_aload_n rfl rfl ?_
  refine mm_getR rfl rfl rfl (by decide) rfl (mm_gi hG 0 0 1 (by decide)) ?_
  refine mm_getR rfl rfl rfl (by decide) rfl (mm_gi hG 1 0 2 (by decide)) ?_
  refine mm_aload_n rfl rfl ?_
  refine mm_getR rfl rfl rfl (by decide) rfl (mm_gi hG 0 0 1 (by decide)) ?_
  refine mm_getR rfl rfl rfl (by decide) rfl (mm_gi hG 1 0 2 (by decide)) ?_
  refine mm_getI (x := nI n) rfl rfl rfl (by decide) rfl hn ?_
  refine mm_isV2 (M2 := qN_rowOf) wd_495 qN_rowOf_k (by decide) (sN_rowOf hG hn hn2 (Nat.le_refl n) hc hc2) rfl (by decide) (Nat.le_of_ble_eq_true rfl) (by decide) (by decide) rfl (by decide) ?_
  refine mm_iconst (v := nI 1) rfl (by decide) ?_
  refine mm_iaddN rfl ?_
  refine mm_ireturn rfl rfl rfl (by decide) (by decide) ?_
  exact ⟨rfl, rfl, rfl, rfl⟩
set_option maxRecDepth 100000 in
set_option maxHeartbeats 4000000 in
theorem sE_info10 {E : mm_E} {G : mm_G} {J : mm_J} (hG : mm_GI G) {n q c f w : Nat} (hn : J 2 1 = nI n) (hn2 : n ≤ 100) (hq : q ≤ n) (hc : J 66 0 = nI c) (hc2 : c ≤ 20) (hp : J 1 3 = nI q) (hf : J 66 2 = nI f) (hf2 : f ≤ 200) (hw : J 66 1 = nI w) (hw2 : w ≤ 6) : mm_Ret E qE_info [.ref 0, .int (nI 10)] 86 J G (some (.int (nI (max (min f (ed_rc (J 3) c q).1) ((ed_rc (J 3) c q).1 + 1 - w))))) 86 (mm_set J 66 2 (nI (max (min f (ed_rc (J 3) c q).1) ((ed_rc (J 3) c q).1 + 1 - w)))) G := by
  refine mm_Met.of qE_info_ok (by decide) (mm_cats rfl) (Nat.le_of_ble_eq_true rfl) ?_
  refine mm_iload_n rfl rfl ?_
  refine mm_tableIn (off := 183) (tgt := 184) rfl (by decide) (by decide) rfl (by decide) ?_
  refine mm_aload_n rfl rfl ?_
  refine mm_getR rfl rfl rfl (by decide) rfl (mm_gi hG 0 5 66 (by decide)) ?_
  refine mm_aload_n rfl rfl ?_
  refine mm_getR rfl rfl rfl (by decide) rfl (mm_gi hG 0 0 1 (by decide)) ?_
  refine mm_isV1 (M2 := qN_follow) wd_473 qN_follow_k (by decide) (sN_follow hG hn hn2 hq hc hc2 hp hf hf2 hw hw2) rfl (by decide) (Nat.le_of_ble_eq_true rfl) (by decide) (by decide) rfl (by decide) ?_
  refine mm_aload_n rfl rfl ?_
  refine mm_getR rfl rfl rfl (by decide) rfl (mm_gi hG 0 5 66 (by decide)) ?_
  refine mm_getI (x := nI (max (min f (ed_rc (J 3) c q).1) ((ed_rc (J 3) c q).1 + 1 - w))) rfl rfl rfl (by decide) rfl (by simp [mm_set]) ?_
  refine mm_ireturn rfl rfl rfl (by decide) (by decide) ?_
  exact ⟨rfl, rfl, rfl, rfl⟩
set_option maxRecDepth 100000 in
set_option maxHeartbeats 4000000 in
theorem sE_info11 {E : mm_E} {G : mm_G} {J : mm_J} (hG : mm_GI G) {n q c f w : Nat} (hn : J 2 1 = nI n) (hn2 : n ≤ 100) (hq : q ≤ n) (hc : J 66 0 = nI c) (hc2 : c ≤ 20) (hp : J 1 3 = nI q) (hf : J 66 2 = nI f) (hf2 : f ≤ 200) (hw : J 66 1 = nI w) (hw2 : w ≤ 6) : mm_Ret E qE_info [.ref 0, .int (nI 11)] 86 J G (some (.int (nI (ed_rc (J 3) c q).1))) 86 J G := by
  refine mm_Met.of qE_info_ok (by decide) (mm_cats rfl) (Nat.le_of_ble_eq_true rfl) ?_
  refine mm_iload_n rfl rfl ?_
  refine mm_tableIn (off := 202) (tgt := 203) rfl (by decide) (by decide) rfl (by decide) ?_
  refine mm_aload_n rfl rfl ?_
  refine mm_getR rfl rfl rfl (by decide) rfl (mm_gi hG 0 5 66 (by decide)) ?_
  refine mm_aload_n rfl rfl ?_
  refine mm_getR rfl rfl rfl (by decide) rfl (mm_gi hG 0 0 1 (by decide)) ?_
  refine mm_getR rfl rfl rfl (by decide) rfl (mm_gi hG 1 0 2 (by decide)) ?_
  refine mm_aload_n rfl rfl ?_
  refine mm_getR rfl rfl rfl (by decide) rfl (mm_gi hG 0 0 1 (by decide)) ?_
  refine mm_getI (x := nI q) rfl rfl rfl (by decide) rfl hp ?_
  refine mm_isV2 (M2 := qN_rowOf) wd_495 qN_rowOf_k (by decide) (sN_rowOf hG hn hn2 hq hc hc2) rfl (by decide) (Nat.le_of_ble_eq_true rfl) (by decide) (by decide) rfl (by decide) ?_
  refine mm_ireturn rfl rfl rfl (by decide) (by decide) ?_
  exact ⟨rfl, rfl, rfl, rfl⟩
set_option maxRecDepth 100000 in
set_option maxHeartbeats 4000000 in
theorem sE_info12 {E : mm_E} {G : mm_G} {J : mm_J} (hG : mm_GI G)  : mm_Ret E qE_info [.ref 0, .int (nI 12)] 86 J G (some (.int (J 0 7))) 86 J G := by
  refine mm_Met.of qE_info_ok (by decide) (mm_cats rfl) (Nat.le_of_ble_eq_true rfl) ?_
  refine mm_iload_n rfl rfl ?_
  refine mm_tableIn (off := 224) (tgt := 225) rfl (by decide) (by decide) rfl (by decide) ?_
  refine mm_aload_n rfl rfl ?_
  refine mm_getI rfl rfl rfl (by decide) rfl rfl ?_
  refine mm_ireturn rfl rfl rfl (by decide) (by decide) ?_
  exact ⟨rfl, rfl, rfl, rfl⟩
set_option maxRecDepth 100000 in
set_option maxHeartbeats 4000000 in
theorem sE_info13 {E : mm_E} {G : mm_G} {J : mm_J} (hG : mm_GI G)  : mm_Ret E qE_info [.ref 0, .int (nI 13)] 86 J G (some (.int (J 0 8))) 86 J G := by
  refine mm_Met.of qE_info_ok (by decide) (mm_cats rfl) (Nat.le_of_ble_eq_true rfl) ?_
  refine mm_iload_n rfl rfl ?_
  refine mm_tableIn (off := 229) (tgt := 230) rfl (by decide) (by decide) rfl (by decide) ?_
  refine mm_aload_n rfl rfl ?_
  refine mm_getI rfl rfl rfl (by decide) rfl rfl ?_
  refine mm_ireturn rfl rfl rfl (by decide) (by decide) ?_
  exact ⟨rfl, rfl, rfl, rfl⟩
set_option maxRecDepth 100000 in
set_option maxHeartbeats 4000000 in
theorem sE_infoX {E : mm_E} {G : mm_G} {J : mm_J} {x : Int32} (h : x.toInt < 0 ∨ 13 < x.toInt) : mm_Ret E qE_info [.ref 0, .int x] 86 J G (some (.int (-1))) 86 J G := by
  refine mm_Met.of qE_info_ok (by decide) (mm_cats rfl) (Nat.le_of_ble_eq_true rfl) ?_
  refine mm_iload_n rfl rfl ?_
  refine mm_tableOut (tgt := 235) rfl h (by decide) ?_
  refine mm_iconst (v := -1) rfl (by decide) ?_
  refine mm_ireturn rfl rfl rfl (by decide) (by decide) ?_
  exact ⟨rfl, rfl, rfl, rfl⟩
end
section
def ed_TI (J : mm_J) (n m : Nat) : Prop := J 2 1 = nI n ∧ n ≤ 100 ∧ (∀ i, i < 5 → ed_vp (J 4 i)) ∧ (∀ i, i < 5 → ed_vb (J 5 i)) ∧ J 16 3 = nI m ∧ m < 2 ^ 30
theorem ed_TI.fr {J J' : mm_J} {n m : Nat} (h : ed_TI J n m) (e2 : J' 2 = J 2) (e4 : J' 4 = J 4) (e5 : J' 5 = J 5) (e16 : J' 16 = J 16) : ed_TI J' n m := by
  unfold ed_TI
  rw [e2, e4, e5, e16]
  exact h
/-- an edit that makes a step -/
def ed_ed (J : mm_J) (x n m p d s : Nat) : mm_J := ed_rp (ed_st J m p d s) x n p d s
theorem sH_ed1 {E : mm_E} {G : mm_G} {J : mm_J} (hG : mm_GI G) {x n m p d s : Nat} (hx : mm_SH x = .inl 2) (hxr : 6 ≤ x ∧ ¬ (16 ≤ x ∧ x < 60)) (hT : ed_TI J n m) (hs : J x 1 = nI s) (hs2 : s ≤ 100) (hpd : p + d ≤ n) (hs3 : n - d + s ≤ 100) : mm_Ret E qH_edit [.ref 16, .ref 1, .int (nI p), .int (nI d), .ref x, .int (nI 0)] 86 J G (some (.int (nI 0))) 86 (ed_ed J x n m p d s) G :=
  sH_edit1 hG hx hT.1 hT.2.1 hs hs2 hpd hxr hs3 hT.2.2.1 hT.2.2.2.1 hT.2.2.2.2.1 hT.2.2.2.2.2
theorem ed_rp_o {J : mm_J} {x n p d s a b : Nat} (h : ¬ a = 2 ∧ ¬ a = 3 ∧ ¬ a = 4) : ed_rp J x n p d s a b = J a b := by
  simp [ed_rp, ed_pl, mm_set, mm_cp, h.1, h.2.1, h.2.2]
theorem ed_ed_o {J : mm_J} {x n m p d s a b : Nat} (h : ¬ a = 2 ∧ ¬ a = 3 ∧ ¬ a = 4 ∧ ¬ (16 ≤ a ∧ a < 60)) : ed_ed J x n m p d s a b = J a b := by
  unfold ed_ed
  rw [ed_rp_o (by omega), ed_st_o (by omega)]
/-- the draft: k times c -/
def ed_fill (J : mm_J) (c : Int32) : Nat → mm_J
  | 0 => mm_set J 67 1 (nI 0)
  | k + 1 => mm_set (mm_set (ed_fill J c k) 68 k c) 67 1 (nI (k + 1))
theorem ed_fill_o (J : mm_J) (c : Int32) {a : Nat} (h : ¬ a = 67 ∧ ¬ a = 68) : ∀ k, ed_fill J c k a = J a
  | 0 => by funext b; simp [ed_fill, mm_set, h.1]
  | k + 1 => by
    funext b
    have := congrFun (ed_fill_o J c h k) b
    simp [ed_fill, mm_set, h.1, h.2, this]
theorem ed_fill_n (J : mm_J) (c : Int32) : ∀ k, ed_fill J c k 67 1 = nI k
  | 0 => by simp [ed_fill, mm_set]
  | k + 1 => by simp [ed_fill, mm_set]
theorem ed_fill_c (J : mm_J) (c : Int32) : ∀ k i, i < k → ed_fill J c k 68 i = c
  | 0, i, h => absurd h (by omega)
  | k + 1, i, h => by
    by_cases e : i = k
    · simp [ed_fill, mm_set, e]
    · have := ed_fill_c J c k i (by omega)
      simp [ed_fill, mm_set, e, this]
theorem ed_TI.fill {J : mm_J} {n m : Nat} (h : ed_TI J n m) (c : Int32) (k : Nat) : ed_TI (ed_fill J c k) n m := h.fr (ed_fill_o J c (by decide) k) (ed_fill_o J c (by decide) k) (ed_fill_o J c (by decide) k) (ed_fill_o J c (by decide) k)
set_option maxRecDepth 100000 in
set_option maxHeartbeats 4000000 in
theorem sE_takeOut0 {E : mm_E} {G : mm_G} {J : mm_J} {a b : Nat} (ha : a < 2 ^ 31) (hab : b ≤ a) : mm_Ret E qE_takeOut [.ref 0, .int (nI a), .int (nI b)] 86 J G (some (.int (-2))) 86 J G := by
  refine mm_Met.of qE_takeOut_ok (by decide) (mm_cats rfl) (Nat.le_of_ble_eq_true rfl) ?_
  refine mm_iload_n rfl rfl ?_
  refine mm_iload_n rfl rfl ?_
  refine mm_icmp_ltN (tgt := 8) rfl (by decide) (by omega) (by omega) (fun h2 => ?_) (fun h2 => ?_)
  · exact absurd h2 (by omega)
  · refine mm_bipush (v := -2) rfl (by decide) ?_
    refine mm_ireturn rfl rfl rfl (by decide) (by decide) ?_
    exact ⟨rfl, rfl, rfl, rfl⟩
set_option maxRecDepth 100000 in
set_option maxHeartbeats 4000000 in
theorem sE_takeOut1 {E : mm_E} {G : mm_G} {J : mm_J} (hG : mm_GI G) {n m : Nat} (hT : ed_TI J n m) {a b : Nat} (hab : a < b) (hb : b ≤ n) : mm_Ret E qE_takeOut [.ref 0, .int (nI a), .int (nI b)] 86 J G (some (.int (nI 0))) 86 (mm_set (ed_ed (mm_set J 67 1 (nI 0)) 67 n m a (b - a) 0) 1 3 (nI a)) G := by
  refine mm_Met.of qE_takeOut_ok (by decide) (mm_cats rfl) (Nat.le_of_ble_eq_true rfl) ?_
  have hn2 := hT.2.1
  refine mm_iload_n rfl rfl ?_
  refine mm_iload_n rfl rfl ?_
  refine mm_icmp_ltN (tgt := 8) rfl (by decide) (by omega) (by omega) (fun h2 => ?_) (fun h2 => ?_)
  · refine mm_aload_n rfl rfl ?_
    refine mm_getR rfl rfl rfl (by decide) rfl (mm_gi hG 0 6 67 (by decide)) ?_
    refine mm_isV0 (M2 := qL_clear) wd_222 qL_clear_k (by decide) (sL_clear hG rfl) rfl (by decide) (Nat.le_of_ble_eq_true rfl) (by decide) (by decide) rfl (by decide) ?_
    refine mm_aload_n rfl rfl ?_
    refine mm_getR rfl rfl rfl (by decide) rfl (mm_gi hG 0 2 16 (by decide)) ?_
    refine mm_aload_n rfl rfl ?_
    refine mm_getR rfl rfl rfl (by decide) rfl (mm_gi hG 0 0 1 (by decide)) ?_
    refine mm_iload_n rfl rfl ?_
    refine mm_iload_n rfl rfl ?_
    refine mm_iload_n rfl rfl ?_
    refine mm_isubN rfl (by omega) ?_
    refine mm_aload_n rfl rfl ?_
    refine mm_getR rfl rfl rfl (by decide) rfl (mm_gi hG 0 6 67 (by decide)) ?_
    refine mm_iconst (v := nI 0) rfl (by decide) ?_
    refine mm_isV5 (M2 := qH_edit) wd_240 qH_edit_k (by decide) (sH_ed1 (s := 0) (n := n) (m := m) hG rfl (by decide) (hT.fr rfl rfl rfl rfl) (by simp [mm_set]) (by omega) (by omega) (by omega)) rfl (by decide) (Nat.le_of_ble_eq_true rfl) (by decide) (by decide) rfl (by decide) ?_
    refine mm_pop rfl rfl ?_
    refine mm_aload_n rfl rfl ?_
    refine mm_iload_n rfl rfl ?_
    refine mm_isV1 (M2 := qE_moveTo) wd_301 qE_moveTo_k (by decide) (sE_moveTo hG) rfl (by decide) (Nat.le_of_ble_eq_true rfl) (by decide) (by decide) rfl (by decide) ?_
    refine mm_ireturn rfl rfl rfl (by decide) (by decide) ?_
    exact ⟨rfl, rfl, rfl, rfl⟩
  · exact absurd h2 (by omega)
def ed_lke (f : Nat → Int32) (n q : Nat) : Nat := if q < ed_le f n q then ed_le f n q else min (ed_le f n q + 1) n
set_option maxRecDepth 100000 in
set_option maxHeartbeats 4000000 in
theorem sE_lineKillEnd {E : mm_E} {G : mm_G} {J : mm_J} (hG : mm_GI G) {n q : Nat} (hn : J 2 1 = nI n) (hn2 : n ≤ 100) (hp : J 1 3 = nI q) (hq : q ≤ n) : mm_Ret E qE_lineKillEnd [.ref 0] 86 J G (some (.int (nI (ed_lke (J 3) n q)))) 86 J G := by
  refine mm_Met.of qE_lineKillEnd_ok (by decide) (mm_cats rfl) (Nat.le_of_ble_eq_true rfl) ?_
  have hle := ed_le_le (f := J 3) hq
  refine mm_aload_n rfl rfl ?_
  refine mm_getR rfl rfl rfl (by decide) rfl (mm_gi hG 0 0 1 (by decide)) ?_
  refine mm_aload_n rfl rfl ?_
  refine mm_getR rfl rfl rfl (by decide) rfl (mm_gi hG 0 0 1 (by decide)) ?_
  refine mm_getI (x := nI q) rfl rfl rfl (by decide) rfl hp ?_
  refine mm_isV1 (M2 := qT_lineEnd) wd_325 qT_lineEnd_k (by decide) (sT_lineEnd hG hn hn2 hq) rfl (by decide) (Nat.le_of_ble_eq_true rfl) (by decide) (by decide) rfl (by decide) ?_
  refine mm_istore_n rfl (by decide) ?_
  refine mm_iload_n rfl rfl ?_
  refine mm_aload_n rfl rfl ?_
  refine mm_getR rfl rfl rfl (by decide) rfl (mm_gi hG 0 0 1 (by decide)) ?_
  refine mm_getI (x := nI q) rfl rfl rfl (by decide) rfl hp ?_
  refine mm_icmp_leN (tgt := 30) rfl (by decide) (by omega) (by omega) (fun h23 => ?_) (fun h23 => ?_)
  · refine mm_iload_n rfl rfl ?_
    refine mm_iconst (v := nI 1) rfl (by decide) ?_
    refine mm_iaddN rfl ?_
    refine mm_aload_n rfl rfl ?_
    refine mm_getR rfl rfl rfl (by decide) rfl (mm_gi hG 0 0 1 (by decide)) ?_
    refine mm_getR rfl rfl rfl (by decide) rfl (mm_gi hG 1 0 2 (by decide)) ?_
    refine mm_getI (x := nI n) rfl rfl rfl (by decide) rfl hn ?_
    refine mm_minN (by omega) (by omega) rfl wd_298 wd_299 wd_10 wd_300 (by decide) (Nat.le_of_ble_eq_true rfl) (by decide) (by decide) ?_
    refine mm_ireturn rfl rfl rfl (by decide) (by decide) ?_
    exact ⟨by rw [ed_lke, if_neg (by omega)], rfl, rfl, rfl⟩
  · refine mm_iload_n rfl rfl ?_
    refine mm_goto (tgt := 46) rfl (by decide) ?_
    refine mm_ireturn rfl rfl rfl (by decide) (by decide) ?_
    exact ⟨by rw [ed_lke, if_pos h23], rfl, rfl, rfl⟩
set_option maxRecDepth 100000 in
set_option maxHeartbeats 4000000 in
theorem sE_regionBeginning1 {E : mm_E} {G : mm_G} {J : mm_J} (hG : mm_GI G) {q k : Nat} (hp : J 1 3 = nI q) (hq : q ≤ 100) (hk : J 4 4 = nI k) (hk2 : k ≤ 100) : mm_Ret E qE_regionBeginning [.ref 0] 86 J G (some (.int (nI (min k q)))) 86 J G := by
  refine mm_Met.of qE_regionBeginning_ok (by decide) (mm_cats rfl) (Nat.le_of_ble_eq_true rfl) ?_
  refine mm_aload_n rfl rfl ?_
  refine mm_getR rfl rfl rfl (by decide) rfl (mm_gi hG 0 0 1 (by decide)) ?_
  refine mm_getR rfl rfl rfl (by decide) rfl (mm_gi hG 1 1 4 (by decide)) ?_
  refine mm_iconst (v := nI 4) rfl (by decide) ?_
  refine mm_rdN rfl (by decide) rfl (by decide) (by decide) (by decide) rfl hk ?_
  refine mm_istore_n rfl (by decide) ?_
  refine mm_iload_n rfl rfl ?_
  refine mm_bipush (v := -2) rfl (by decide) ?_
  refine mm_icmp_ne (tgt := 26) rfl (by decide) (fun h13 => ?_) (fun h13 => ?_)
  · refine mm_iload_n rfl rfl ?_
    refine mm_aload_n rfl rfl ?_
    refine mm_getR rfl rfl rfl (by decide) rfl (mm_gi hG 0 0 1 (by decide)) ?_
    refine mm_getI (x := nI q) rfl rfl rfl (by decide) rfl hp ?_
    refine mm_minN (by omega) (by omega) rfl wd_298 wd_299 wd_10 wd_300 (by decide) (Nat.le_of_ble_eq_true rfl) (by decide) (by decide) ?_
    refine mm_ireturn rfl rfl rfl (by decide) (by decide) ?_
    exact ⟨rfl, rfl, rfl, rfl⟩
  · exact absurd h13 (ed_m2n (by omega))
set_option maxRecDepth 100000 in
set_option maxHeartbeats 4000000 in
theorem sE_regionBeginning0 {E : mm_E} {G : mm_G} {J : mm_J} (hG : mm_GI G) {q : Nat} (hp : J 1 3 = nI q) (hq : q ≤ 100) (hk : J 4 4 = -2) : mm_Ret E qE_regionBeginning [.ref 0] 86 J G (some (.int (nI q))) 86 J G := by
  refine mm_Met.of qE_regionBeginning_ok (by decide) (mm_cats rfl) (Nat.le_of_ble_eq_true rfl) ?_
  refine mm_aload_n rfl rfl ?_
  refine mm_getR rfl rfl rfl (by decide) rfl (mm_gi hG 0 0 1 (by decide)) ?_
  refine mm_getR rfl rfl rfl (by decide) rfl (mm_gi hG 1 1 4 (by decide)) ?_
  refine mm_iconst (v := nI 4) rfl (by decide) ?_
  refine mm_rdN rfl (by decide) rfl (by decide) (by decide) (by decide) rfl hk ?_
  refine mm_istore_n rfl (by decide) ?_
  refine mm_iload_n rfl rfl ?_
  refine mm_bipush (v := -2) rfl (by decide) ?_
  refine mm_icmp_ne (tgt := 26) rfl (by decide) (fun h13 => ?_) (fun h13 => ?_)
  · exact absurd rfl h13
  · refine mm_aload_n rfl rfl ?_
    refine mm_getR rfl rfl rfl (by decide) rfl (mm_gi hG 0 0 1 (by decide)) ?_
    refine mm_getI (x := nI q) rfl rfl rfl (by decide) rfl hp ?_
    refine mm_goto (tgt := 37) rfl (by decide) ?_
    refine mm_ireturn rfl rfl rfl (by decide) (by decide) ?_
    exact ⟨rfl, rfl, rfl, rfl⟩
set_option maxRecDepth 100000 in
set_option maxHeartbeats 4000000 in
theorem sE_regionEnd1 {E : mm_E} {G : mm_G} {J : mm_J} (hG : mm_GI G) {q k : Nat} (hp : J 1 3 = nI q) (hq : q ≤ 100) (hk : J 4 4 = nI k) (hk2 : k ≤ 100) : mm_Ret E qE_regionEnd [.ref 0] 86 J G (some (.int (nI (max k q)))) 86 J G := by
  refine mm_Met.of qE_regionEnd_ok (by decide) (mm_cats rfl) (Nat.le_of_ble_eq_true rfl) ?_
  refine mm_aload_n rfl rfl ?_
  refine mm_getR rfl rfl rfl (by decide) rfl (mm_gi hG 0 0 1 (by decide)) ?_
  refine mm_getR rfl rfl rfl (by decide) rfl (mm_gi hG 1 1 4 (by decide)) ?_
  refine mm_iconst (v := nI 4) rfl (by decide) ?_
  refine mm_rdN rfl (by decide) rfl (by decide) (by decide) (by decide) rfl hk ?_
  refine mm_aload_n rfl rfl ?_
  refine mm_getR rfl rfl rfl (by decide) rfl (mm_gi hG 0 0 1 (by decide)) ?_
  refine mm_getI (x := nI q) rfl rfl rfl (by decide) rfl hp ?_
  refine mm_maxN (by omega) (by omega) rfl wd_305 wd_306 wd_10 wd_307 (by decide) (Nat.le_of_ble_eq_true rfl) (by decide) (by decide) ?_
  refine mm_ireturn rfl rfl rfl (by decide) (by decide) ?_
  exact ⟨rfl, rfl, rfl, rfl⟩
set_option maxRecDepth 100000 in
set_option maxHeartbeats 4000000 in
theorem sE_regionEnd0 {E : mm_E} {G : mm_G} {J : mm_J} (hG : mm_GI G) {q : Nat} (hp : J 1 3 = nI q) (hq : q ≤ 100) (hk : J 4 4 = -2) : mm_Ret E qE_regionEnd [.ref 0] 86 J G (some (.int (nI q))) 86 J G := by
  refine mm_Met.of qE_regionEnd_ok (by decide) (mm_cats rfl) (Nat.le_of_ble_eq_true rfl) ?_
  refine mm_aload_n rfl rfl ?_
  refine mm_getR rfl rfl rfl (by decide) rfl (mm_gi hG 0 0 1 (by decide)) ?_
  refine mm_getR rfl rfl rfl (by decide) rfl (mm_gi hG 1 1 4 (by decide)) ?_
  refine mm_iconst (v := nI 4) rfl (by decide) ?_
  refine mm_rdN rfl (by decide) rfl (by decide) (by decide) (by decide) rfl hk ?_
  refine mm_aload_n rfl rfl ?_
  refine mm_getR rfl rfl rfl (by decide) rfl (mm_gi hG 0 0 1 (by decide)) ?_
  refine mm_getI (x := nI q) rfl rfl rfl (by decide) rfl hp ?_
  refine mm_max rfl wd_305 wd_306 wd_10 wd_307 (by decide) (Nat.le_of_ble_eq_true rfl) (by decide) (by decide) ?_
  refine mm_ireturn rfl rfl rfl (by decide) (by decide) ?_
  exact ⟨by rw [if_pos (ed_m2 (by omega))], rfl, rfl, rfl⟩
set_option maxRecDepth 100000 in
set_option maxHeartbeats 4000000 in
theorem sE_kill0 {E : mm_E} {G : mm_G} {J : mm_J} {a b : Nat} {jo : Int32} (ha : a < 2 ^ 31) (hab : b ≤ a) : mm_Ret E qE_kill [.ref 0, .int (nI a), .int (nI b), .int jo] 86 J G (some (.int (-2))) 86 J G := by
  refine mm_Met.of qE_kill_ok (by decide) (mm_cats rfl) (Nat.le_of_ble_eq_true rfl) ?_
  refine mm_iload_n rfl rfl ?_
  refine mm_iload_n rfl rfl ?_
  refine mm_icmp_ltN (tgt := 8) rfl (by decide) (by omega) (by omega) (fun h2 => ?_) (fun h2 => ?_)
  · exact absurd h2 (by omega)
  · refine mm_bipush (v := -2) rfl (by decide) ?_
    refine mm_ireturn rfl rfl rfl (by decide) (by decide) ?_
    exact ⟨rfl, rfl, rfl, rfl⟩
set_option maxRecDepth 100000 in
set_option maxHeartbeats 4000000 in
theorem sE_kill1 {E : mm_E} {G : mm_G} {J : mm_J} (hG : mm_GI G) {n m : Nat} (hT : ed_TI J n m) {r0 : Nat} (g0 : G 7 0 = some r0) (e0 : mm_SH r0 = .inl 2) (h0 : 8 ≤ r0 ∧ r0 ≤ 14) {a b l : Nat} (hl : J r0 1 = nI l) (hab : a < b) (hb : b ≤ n) (hl2 : l + (b - a) ≤ 100) : mm_Ret E qE_kill [.ref 0, .int (nI a), .int (nI b), .int (nI 1)] 86 J G (some (.int (nI 0))) 86 (mm_set (ed_ed (mm_set (mm_set (mm_cp J 3 (r0 + 1) a l (b - a)) r0 1 (nI (l + (b - a)))) 67 1 (nI 0)) 67 n m a (b - a) 0) 1 3 (nI a)) G := by
  refine mm_Met.of qE_kill_ok (by decide) (mm_cats rfl) (Nat.le_of_ble_eq_true rfl) ?_
  have hn2 := hT.2.1
  refine mm_iload_n rfl rfl ?_
  refine mm_iload_n rfl rfl ?_
  refine mm_icmp_ltN (tgt := 8) rfl (by decide) (by omega) (by omega) (fun h2 => ?_) (fun h2 => ?_)
  · refine mm_aload_n rfl rfl ?_
    refine mm_getR rfl rfl rfl (by decide) rfl (mm_gi hG 0 1 6 (by decide)) ?_
    refine mm_aload_n rfl rfl ?_
    refine mm_getR rfl rfl rfl (by decide) rfl (mm_gi hG 0 0 1 (by decide)) ?_
    refine mm_getR rfl rfl rfl (by decide) rfl (mm_gi hG 1 0 2 (by decide)) ?_
    refine mm_iload_n rfl rfl ?_
    refine mm_iload_n rfl rfl ?_
    refine mm_iload_n rfl rfl ?_
    refine mm_isV4 (M2 := qK_take) wd_351 qK_take_k (by decide) (sK_take1 hG g0 e0 h0.1 hT.1 hn2 hl (by omega) hb hl2) rfl (by decide) (Nat.le_of_ble_eq_true rfl) (by decide) (by decide) rfl (by decide) ?_
    refine mm_aload_n rfl rfl ?_
    refine mm_getR rfl rfl rfl (by decide) rfl (mm_gi hG 0 6 67 (by decide)) ?_
    refine mm_isV0 (M2 := qL_clear) wd_222 qL_clear_k (by decide) (sL_clear hG rfl) rfl (by decide) (Nat.le_of_ble_eq_true rfl) (by decide) (by decide) rfl (by decide) ?_
    refine mm_aload_n rfl rfl ?_
    refine mm_getR rfl rfl rfl (by decide) rfl (mm_gi hG 0 2 16 (by decide)) ?_
    refine mm_aload_n rfl rfl ?_
    refine mm_getR rfl rfl rfl (by decide) rfl (mm_gi hG 0 0 1 (by decide)) ?_
    refine mm_iload_n rfl rfl ?_
    refine mm_iload_n rfl rfl ?_
    refine mm_iload_n rfl rfl ?_
    refine mm_isubN rfl (by omega) ?_
    refine mm_aload_n rfl rfl ?_
    refine mm_getR rfl rfl rfl (by decide) rfl (mm_gi hG 0 6 67 (by decide)) ?_
    refine mm_iconst (v := nI 0) rfl (by decide) ?_
    refine mm_isV5 (M2 := qH_edit) wd_240 qH_edit_k (by decide) (sH_ed1 (s := 0) (n := n) (m := m) hG rfl (by decide) (hT.fr (by funext j; simp [mm_set, mm_cp, show ¬ 2 = r0 by omega, show ¬ 2 = r0 + 1 by omega]) (by funext j; simp [mm_set, mm_cp, show ¬ 4 = r0 by omega, show ¬ 4 = r0 + 1 by omega]) (by funext j; simp [mm_set, mm_cp, show ¬ 5 = r0 by omega, show ¬ 5 = r0 + 1 by omega]) (by funext j; simp [mm_set, mm_cp, show ¬ 16 = r0 by omega, show ¬ 16 = r0 + 1 by omega])) (by simp [mm_set]) (by omega) (by omega) (by omega)) rfl (by decide) (Nat.le_of_ble_eq_true rfl) (by decide) (by decide) rfl (by decide) ?_
    refine mm_pop rfl rfl ?_
    refine mm_aload_n rfl rfl ?_
    refine mm_iload_n rfl rfl ?_
    refine mm_isV1 (M2 := qE_moveTo) wd_301 qE_moveTo_k (by decide) (sE_moveTo hG) rfl (by decide) (Nat.le_of_ble_eq_true rfl) (by decide) (by decide) rfl (by decide) ?_
    refine mm_ireturn rfl rfl rfl (by decide) (by decide) ?_
    exact ⟨rfl, rfl, rfl, rfl⟩
  · exact absurd h2 (by omega)
set_option maxRecDepth 100000 in
set_option maxHeartbeats 4000000 in
theorem sE_kill2 {E : mm_E} {G : mm_G} {J : mm_J} (hG : mm_GI G) {n m : Nat} (hT : ed_TI J n m) {r0 r1 r2 r3 : Nat} (g0 : G 7 0 = some r0) (g1 : G 7 1 = some r1) (g2 : G 7 2 = some r2) (g3 : G 7 3 = some r3) (e0 : mm_SH r0 = .inl 2) (e1 : mm_SH r1 = .inl 2) (e2 : mm_SH r2 = .inl 2) (e3 : mm_SH r3 = .inl 2) (h3 : 8 ≤ r3 ∧ r3 ≤ 14) {c : Nat} (hc : J 6 1 = nI c) (hc2 : c ≤ 4) {a b : Nat} (hab : a < b) (hb : b ≤ n) : mm_Ret E qE_kill [.ref 0, .int (nI a), .int (nI b), .int (nI 0)] 86 J G (some (.int (nI 0))) 86 (mm_set (ed_ed (mm_set (mm_set (mm_cp (mm_set (mm_set J r3 1 (nI 0)) 6 1 (nI (min (c + 1) 4))) 3 (r3 + 1) a 0 (b - a)) r3 1 (nI (0 + (b - a)))) 67 1 (nI 0)) 67 n m a (b - a) 0) 1 3 (nI a)) (mm_sg (mm_sg (mm_sg (mm_sg G 7 3 (some r2)) 7 2 (some r1)) 7 1 (some r0)) 7 0 (some r3)) := by
  refine mm_Met.of qE_kill_ok (by decide) (mm_cats rfl) (Nat.le_of_ble_eq_true rfl) ?_
  have hn2 := hT.2.1
  refine mm_iload_n rfl rfl ?_
  refine mm_iload_n rfl rfl ?_
  refine mm_icmp_ltN (tgt := 8) rfl (by decide) (by omega) (by omega) (fun h2 => ?_) (fun h2 => ?_)
  · refine mm_aload_n rfl rfl ?_
    refine mm_getR rfl rfl rfl (by decide) rfl (mm_gi hG 0 1 6 (by decide)) ?_
    refine mm_aload_n rfl rfl ?_
    refine mm_getR rfl rfl rfl (by decide) rfl (mm_gi hG 0 0 1 (by decide)) ?_
    refine mm_getR rfl rfl rfl (by decide) rfl (mm_gi hG 1 0 2 (by decide)) ?_
    refine mm_iload_n rfl rfl ?_
    refine mm_iload_n rfl rfl ?_
    refine mm_iload_n rfl rfl ?_
    refine mm_isV4 (M2 := qK_take) wd_351 qK_take_k (by decide) (sK_take0 hG g0 g1 g2 g3 e0 e1 e2 e3 h3.1 hc hc2 hT.1 hn2 (by omega) hb) rfl (by decide) (Nat.le_of_ble_eq_true rfl) (by decide) (by decide) rfl (by decide) ?_
    refine mm_aload_n rfl rfl ?_
    refine mm_getR rfl rfl rfl (by decide) rfl (mm_gi (mm_GI_sg (mm_GI_sg (mm_GI_sg (mm_GI_sg hG)))) 0 6 67 (by decide)) ?_
    refine mm_isV0 (M2 := qL_clear) wd_222 qL_clear_k (by decide) (sL_clear (mm_GI_sg (mm_GI_sg (mm_GI_sg (mm_GI_sg hG)))) rfl) rfl (by decide) (Nat.le_of_ble_eq_true rfl) (by decide) (by decide) rfl (by decide) ?_
    refine mm_aload_n rfl rfl ?_
    refine mm_getR rfl rfl rfl (by decide) rfl (mm_gi (mm_GI_sg (mm_GI_sg (mm_GI_sg (mm_GI_sg hG)))) 0 2 16 (by decide)) ?_
    refine mm_aload_n rfl rfl ?_
    refine mm_getR rfl rfl rfl (by decide) rfl (mm_gi (mm_GI_sg (mm_GI_sg (mm_GI_sg (mm_GI_sg hG)))) 0 0 1 (by decide)) ?_
    refine mm_iload_n rfl rfl ?_
    refine mm_iload_n rfl rfl ?_
    refine mm_iload_n rfl rfl ?_
    refine mm_isubN rfl (by omega) ?_
    refine mm_aload_n rfl rfl ?_
    refine mm_getR rfl rfl rfl (by decide) rfl (mm_gi (mm_GI_sg (mm_GI_sg (mm_GI_sg (mm_GI_sg hG)))) 0 6 67 (by decide)) ?_
    refine mm_iconst (v := nI 0) rfl (by decide) ?_
    refine mm_isV5 (M2 := qH_edit) wd_240 qH_edit_k (by decide) (sH_ed1 (s := 0) (n := n) (m := m) (mm_GI_sg (mm_GI_sg (mm_GI_sg (mm_GI_sg hG)))) rfl (by decide) (hT.fr (by funext j; simp [mm_set, mm_cp, show ¬ 2 = r3 by omega, show ¬ 2 = r3 + 1 by omega]) (by funext j; simp [mm_set, mm_cp, show ¬ 4 = r3 by omega, show ¬ 4 = r3 + 1 by omega]) (by funext j; simp [mm_set, mm_cp, show ¬ 5 = r3 by omega, show ¬ 5 = r3 + 1 by omega]) (by funext j; simp [mm_set, mm_cp, show ¬ 16 = r3 by omega, show ¬ 16 = r3 + 1 by omega])) (by simp [mm_set]) (by omega) (by omega) (by omega)) rfl (by decide) (Nat.le_of_ble_eq_true rfl) (by decide) (by decide) rfl (by decide) ?_
    refine mm_pop rfl rfl ?_
    refine mm_aload_n rfl rfl ?_
    refine mm_iload_n rfl rfl ?_
    refine mm_isV1 (M2 := qE_moveTo) wd_301 qE_moveTo_k (by decide) (sE_moveTo (mm_GI_sg (mm_GI_sg (mm_GI_sg (mm_GI_sg hG))))) rfl (by decide) (Nat.le_of_ble_eq_true rfl) (by decide) (by decide) rfl (by decide) ?_
    refine mm_ireturn rfl rfl rfl (by decide) (by decide) ?_
    exact ⟨rfl, rfl, rfl, rfl⟩
  · exact absurd h2 (by omega)
set_option maxRecDepth 100000 in
set_option maxHeartbeats 4000000 in
theorem sE_copy0 {E : mm_E} {G : mm_G} {J : mm_J} {a b : Nat} (ha : a < 2 ^ 31) (hab : b ≤ a) : mm_Ret E qE_copy [.ref 0, .int (nI a), .int (nI b)] 86 J G (some (.int (-2))) 86 J G := by
  refine mm_Met.of qE_copy_ok (by decide) (mm_cats rfl) (Nat.le_of_ble_eq_true rfl) ?_
  refine mm_iload_n rfl rfl ?_
  refine mm_iload_n rfl rfl ?_
  refine mm_icmp_ltN (tgt := 8) rfl (by decide) (by omega) (by omega) (fun h2 => ?_) (fun h2 => ?_)
  · exact absurd h2 (by omega)
  · refine mm_bipush (v := -2) rfl (by decide) ?_
    refine mm_ireturn rfl rfl rfl (by decide) (by decide) ?_
    exact ⟨rfl, rfl, rfl, rfl⟩
set_option maxRecDepth 100000 in
set_option maxHeartbeats 4000000 in
theorem sE_copy1 {E : mm_E} {G : mm_G} {J : mm_J} (hG : mm_GI G) {n m : Nat} (hT : ed_TI J n m) {r0 r1 r2 r3 : Nat} (g0 : G 7 0 = some r0) (g1 : G 7 1 = some r1) (g2 : G 7 2 = some r2) (g3 : G 7 3 = some r3) (e0 : mm_SH r0 = .inl 2) (e1 : mm_SH r1 = .inl 2) (e2 : mm_SH r2 = .inl 2) (e3 : mm_SH r3 = .inl 2) (h3 : 8 ≤ r3 ∧ r3 ≤ 14) {c : Nat} (hc : J 6 1 = nI c) (hc2 : c ≤ 4) {a b : Nat} (hab : a < b) (hb : b ≤ n) : mm_Ret E qE_copy [.ref 0, .int (nI a), .int (nI b)] 86 J G (some (.int (nI 0))) 86 (mm_set (mm_cp (mm_set (mm_set J r3 1 (nI 0)) 6 1 (nI (min (c + 1) 4))) 3 (r3 + 1) a 0 (b - a)) r3 1 (nI (0 + (b - a)))) (mm_sg (mm_sg (mm_sg (mm_sg G 7 3 (some r2)) 7 2 (some r1)) 7 1 (some r0)) 7 0 (some r3)) := by
  refine mm_Met.of qE_copy_ok (by decide) (mm_cats rfl) (Nat.le_of_ble_eq_true rfl) ?_
  have hn2 := hT.2.1
  refine mm_iload_n rfl rfl ?_
  refine mm_iload_n rfl rfl ?_
  refine mm_icmp_ltN (tgt := 8) rfl (by decide) (by omega) (by omega) (fun h2 => ?_) (fun h2 => ?_)
  · refine mm_aload_n rfl rfl ?_
    refine mm_getR rfl rfl rfl (by decide) rfl (mm_gi hG 0 1 6 (by decide)) ?_
    refine mm_aload_n rfl rfl ?_
    refine mm_getR rfl rfl rfl (by decide) rfl (mm_gi hG 0 0 1 (by decide)) ?_
    refine mm_getR rfl rfl rfl (by decide) rfl (mm_gi hG 1 0 2 (by decide)) ?_
    refine mm_iload_n rfl rfl ?_
    refine mm_iload_n rfl rfl ?_
    refine mm_iconst (v := nI 0) rfl (by decide) ?_
    refine mm_isV4 (M2 := qK_take) wd_351 qK_take_k (by decide) (sK_take0 hG g0 g1 g2 g3 e0 e1 e2 e3 h3.1 hc hc2 hT.1 hn2 (by omega) hb) rfl (by decide) (Nat.le_of_ble_eq_true rfl) (by decide) (by decide) rfl (by decide) ?_
    refine mm_iconst (v := nI 0) rfl (by decide) ?_
    refine mm_ireturn rfl rfl rfl (by decide) (by decide) ?_
    exact ⟨rfl, rfl, rfl, rfl⟩
  · exact absurd h2 (by omega)
set_option maxRecDepth 100000 in
set_option maxHeartbeats 4000000 in
theorem sE_putKill0 {E : mm_E} {G : mm_G} {J : mm_J} (hG : mm_GI G) {c k : Nat} (hc : J 6 1 = nI c) (hc2 : c ≤ 4) {p d : Int32} (hk : c ≤ k) (hk2 : k ≤ 4) : mm_Ret E qE_putKill [.ref 0, .int (nI k), .int p, .int d] 86 J G (some (.int (-2))) 86 J G := by
  refine mm_Met.of qE_putKill_ok (by decide) (mm_cats rfl) (Nat.le_of_ble_eq_true rfl) ?_
  refine mm_iload_n rfl rfl ?_
  refine mm_aload_n rfl rfl ?_
  refine mm_getR rfl rfl rfl (by decide) rfl (mm_gi hG 0 1 6 (by decide)) ?_
  refine mm_getI (x := nI c) rfl rfl rfl (by decide) rfl hc ?_
  refine mm_icmp_ltN (tgt := 14) rfl (by decide) (by omega) (by omega) (fun h8 => ?_) (fun h8 => ?_)
  · exact absurd h8 (by omega)
  · refine mm_bipush (v := -2) rfl (by decide) ?_
    refine mm_ireturn rfl rfl rfl (by decide) (by decide) ?_
    exact ⟨rfl, rfl, rfl, rfl⟩
set_option maxRecDepth 100000 in
set_option maxHeartbeats 4000000 in
theorem sE_putKill1 {E : mm_E} {G : mm_G} {J : mm_J} (hG : mm_GI G) {n m : Nat} (hT : ed_TI J n m) {c k r p d s : Nat} (hc : J 6 1 = nI c) (hc2 : c ≤ 4) (hk : k < c) (hg : G 7 k = some r) (hr : mm_SH r = .inl 2) (hrr : 8 ≤ r ∧ r ≤ 14) (hs : J r 1 = nI s) (hs2 : s ≤ 100) (hpd : p + d ≤ n) (h : 100 < n - d + s) : mm_Ret E qE_putKill [.ref 0, .int (nI k), .int (nI p), .int (nI d)] 86 J G (some (.int (-3))) 86 J G := by
  refine mm_Met.of qE_putKill_ok (by decide) (mm_cats rfl) (Nat.le_of_ble_eq_true rfl) ?_
  have hn2 := hT.2.1
  refine mm_iload_n rfl rfl ?_
  refine mm_aload_n rfl rfl ?_
  refine mm_getR rfl rfl rfl (by decide) rfl (mm_gi hG 0 1 6 (by decide)) ?_
  refine mm_getI (x := nI c) rfl rfl rfl (by decide) rfl hc ?_
  refine mm_icmp_ltN (tgt := 14) rfl (by decide) (by omega) (by omega) (fun h8 => ?_) (fun h8 => ?_)
  · refine mm_aload_n rfl rfl ?_
    refine mm_getR rfl rfl rfl (by decide) rfl (mm_gi hG 0 1 6 (by decide)) ?_
    refine mm_getR rfl rfl rfl (by decide) rfl (mm_gi hG 6 0 7 (by decide)) ?_
    refine mm_iload_n rfl rfl ?_
    refine mm_rrN rfl (by decide) rfl rfl (by decide) (by omega) (by decide) hg rfl ?_
    refine mm_astore rfl (by decide) ?_
    refine mm_aload_n rfl rfl ?_
    refine mm_getR rfl rfl rfl (by decide) rfl (mm_gi hG 0 2 16 (by decide)) ?_
    refine mm_aload_n rfl rfl ?_
    refine mm_getR rfl rfl rfl (by decide) rfl (mm_gi hG 0 0 1 (by decide)) ?_
    refine mm_iload_n rfl rfl ?_
    refine mm_iload_n rfl rfl ?_
    refine mm_aload rfl rfl ?_
    refine mm_iconst (v := nI 0) rfl (by decide) ?_
    refine mm_isV5 (M2 := qH_edit) wd_240 qH_edit_k (by decide) (sH_edit0 hG hr hT.1 hn2 hs hs2 hpd h) rfl (by decide) (Nat.le_of_ble_eq_true rfl) (by decide) (by decide) rfl (by decide) ?_
    refine mm_bipush (v := -3) rfl (by decide) ?_
    refine mm_icmp_ne (tgt := 49) rfl (by decide) (fun h43 => ?_) (fun h43 => ?_)
    · exact absurd rfl h43
    · refine mm_bipush (v := -3) rfl (by decide) ?_
      refine mm_ireturn rfl rfl rfl (by decide) (by decide) ?_
      exact ⟨rfl, rfl, rfl, rfl⟩
  · exact absurd h8 (by omega)
set_option maxRecDepth 100000 in
set_option maxHeartbeats 4000000 in
theorem sE_putKill2 {E : mm_E} {G : mm_G} {J : mm_J} (hG : mm_GI G) {n m : Nat} (hT : ed_TI J n m) {c k r p d s : Nat} (hc : J 6 1 = nI c) (hc2 : c ≤ 4) (hk : k < c) (hg : G 7 k = some r) (hr : mm_SH r = .inl 2) (hrr : 8 ≤ r ∧ r ≤ 14) (hs : J r 1 = nI s) (hs2 : s ≤ 100) (hpd : p + d ≤ n) (h : n - d + s ≤ 100) : mm_Ret E qE_putKill [.ref 0, .int (nI k), .int (nI p), .int (nI d)] 86 J G (some (.int (nI 0))) 86 (mm_set (mm_set (mm_set (ed_ed J r n m p d s) 0 10 (nI k)) 1 3 (nI (p + s))) 4 4 (nI p)) G := by
  refine mm_Met.of qE_putKill_ok (by decide) (mm_cats rfl) (Nat.le_of_ble_eq_true rfl) ?_
  have hn2 := hT.2.1
  refine mm_iload_n rfl rfl ?_
  refine mm_aload_n rfl rfl ?_
  refine mm_getR rfl rfl rfl (by decide) rfl (mm_gi hG 0 1 6 (by decide)) ?_
  refine mm_getI (x := nI c) rfl rfl rfl (by decide) rfl hc ?_
  refine mm_icmp_ltN (tgt := 14) rfl (by decide) (by omega) (by omega) (fun h8 => ?_) (fun h8 => ?_)
  · refine mm_aload_n rfl rfl ?_
    refine mm_getR rfl rfl rfl (by decide) rfl (mm_gi hG 0 1 6 (by decide)) ?_
    refine mm_getR rfl rfl rfl (by decide) rfl (mm_gi hG 6 0 7 (by decide)) ?_
    refine mm_iload_n rfl rfl ?_
    refine mm_rrN rfl (by decide) rfl rfl (by decide) (by omega) (by decide) hg rfl ?_
    refine mm_astore rfl (by decide) ?_
    refine mm_aload_n rfl rfl ?_
    refine mm_getR rfl rfl rfl (by decide) rfl (mm_gi hG 0 2 16 (by decide)) ?_
    refine mm_aload_n rfl rfl ?_
    refine mm_getR rfl rfl rfl (by decide) rfl (mm_gi hG 0 0 1 (by decide)) ?_
    refine mm_iload_n rfl rfl ?_
    refine mm_iload_n rfl rfl ?_
    refine mm_aload rfl rfl ?_
    refine mm_iconst (v := nI 0) rfl (by decide) ?_
    refine mm_isV5 (M2 := qH_edit) wd_240 qH_edit_k (by decide) (sH_ed1 hG hr (by omega) hT hs hs2 hpd h) rfl (by decide) (Nat.le_of_ble_eq_true rfl) (by decide) (by decide) rfl (by decide) ?_
    refine mm_bipush (v := -3) rfl (by decide) ?_
    refine mm_icmp_ne (tgt := 49) rfl (by decide) (fun h43 => ?_) (fun h43 => ?_)
    · refine mm_aload_n rfl rfl ?_
      refine mm_iload_n rfl rfl ?_
      refine mm_putI rfl rfl rfl (by decide) rfl (Or.inl rfl) rfl rfl ?_
      refine mm_aload_n rfl rfl ?_
      refine mm_getR rfl rfl rfl (by decide) rfl (mm_gi hG 0 0 1 (by decide)) ?_
      refine mm_iload_n rfl rfl ?_
      refine mm_aload rfl rfl ?_
      refine mm_getI (x := nI s) rfl rfl hr (mm_l1 hr) rfl (by simp [mm_set, show ¬ r = 0 by omega, ed_ed_o (show ¬ r = 2 ∧ ¬ r = 3 ∧ ¬ r = 4 ∧ ¬ (16 ≤ r ∧ r < 60) by omega), hs]) ?_
      refine mm_iaddN rfl ?_
      refine mm_putI rfl rfl rfl (by decide) rfl (Or.inl rfl) rfl rfl ?_
      refine mm_aload_n rfl rfl ?_
      refine mm_iload_n rfl rfl ?_
      refine mm_isV1 (M2 := qE_setMark) wd_378 qE_setMark_k (by decide) (sE_setMark hG) rfl (by decide) (Nat.le_of_ble_eq_true rfl) (by decide) (by decide) rfl (by decide) ?_
      refine mm_ireturn rfl rfl rfl (by decide) (by decide) ?_
      exact ⟨rfl, rfl, rfl, rfl⟩
    · exact absurd h43 (by decide)
  · exact absurd h8 (by omega)
end
section
set_option maxRecDepth 100000 in
set_option maxHeartbeats 4000000 in
theorem lE_insert {E : mm_E} {G : mm_G} {J : mm_J} (hG : mm_GI G) {t : Nat} {c : Int32} {F : mm_F} (ht : J 0 7 = nI t) (ht9 : t ≤ 9) (kk : mm_Go E qE_insert 31 [some (.ref 0), some (.int c), some (.int (nI t))] [] 86 (ed_fill J c t) G 0 0 F) : ∀ (k i : Nat), t - i = k → i ≤ t → mm_Go E qE_insert 9 [some (.ref 0), some (.int c), some (.int (nI i))] [] 86 (ed_fill J c i) G 0 0 F
  | 0, i, hk, hi => by
    refine mm_iload_n rfl rfl ?_
    refine mm_aload_n rfl rfl ?_
    refine mm_getI (x := nI t) rfl rfl rfl (by decide) rfl (by rw [ed_fill_o J c (by decide)]; exact ht) ?_
    refine mm_icmp_geN (tgt := 31) rfl (by decide) (by omega) (by omega) (fun h14 => ?_) (fun h14 => ?_)
    · rw [show i = t by omega]
      exact kk
    · exact absurd h14 (by omega)
  | k + 1, i, hk, hi => by
    refine mm_iload_n rfl rfl ?_
    refine mm_aload_n rfl rfl ?_
    refine mm_getI (x := nI t) rfl rfl rfl (by decide) rfl (by rw [ed_fill_o J c (by decide)]; exact ht) ?_
    refine mm_icmp_geN (tgt := 31) rfl (by decide) (by omega) (by omega) (fun h14 => ?_) (fun h14 => ?_)
    · exact absurd h14 (by omega)
    · refine mm_aload_n rfl rfl ?_
      refine mm_getR rfl rfl rfl (by decide) rfl (mm_gi hG 0 6 67 (by decide)) ?_
      refine mm_iload_n rfl rfl ?_
      refine mm_isV1 (M2 := qL_add) wd_226 qL_add_k (by decide) (sL_add hG rfl (ed_fill_n J c i) (by omega)) rfl (by decide) (Nat.le_of_ble_eq_true rfl) (by decide) (by decide) rfl (by decide) ?_
      refine mm_iincN rfl rfl (mm_inc1 _) (by decide) ?_
      refine mm_goto (tgt := 9) rfl (by decide) ?_
      exact lE_insert hG ht ht9 kk k (i + 1) (by omega) (by omega)
set_option maxRecDepth 100000 in
set_option maxHeartbeats 4000000 in
theorem lE_insF {E : mm_E} {G : mm_G} {J : mm_J} (hG : mm_GI G) {n m : Nat} (hT : ed_TI J n m) {q t : Nat} {c : Int32} {z : Option Value} (ht9 : t ≤ 9) (hp : J 1 3 = nI q) (hq : q ≤ n) {jo : Nat} (h : 100 < n + t) : mm_Go E qE_insert 57 [some (.ref 0), some (.int c), z] [.int (nI jo)] 86 (ed_fill J c t) G 0 0 (mm_Fm E qE_insert (mm_is (some (.int (-3))) 86 (ed_fill J c t) G)) := by
  have hn2 := hT.2.1
  have hfp : ed_fill J c t 1 3 = nI q := by rw [ed_fill_o J c (by decide)]; exact hp
  refine mm_istore_n rfl (by decide) ?_
  refine mm_aload_n rfl rfl ?_
  refine mm_getR rfl rfl rfl (by decide) rfl (mm_gi hG 0 2 16 (by decide)) ?_
  refine mm_aload_n rfl rfl ?_
  refine mm_getR rfl rfl rfl (by decide) rfl (mm_gi hG 0 0 1 (by decide)) ?_
  refine mm_aload_n rfl rfl ?_
  refine mm_getR rfl rfl rfl (by decide) rfl (mm_gi hG 0 0 1 (by decide)) ?_
  refine mm_getI (x := nI q) rfl rfl rfl (by decide) rfl hfp ?_
  refine mm_iconst (v := nI 0) rfl (by decide) ?_
  refine mm_aload_n rfl rfl ?_
  refine mm_getR rfl rfl rfl (by decide) rfl (mm_gi hG 0 6 67 (by decide)) ?_
  refine mm_iload_n rfl rfl ?_
  refine mm_isV5 (M2 := qH_edit) wd_240 qH_edit_k (by decide) (sH_edit0 (s := t) hG rfl (hT.fill c t).1 hn2 (ed_fill_n J c t) (by omega) (by omega) (by omega)) rfl (by decide) (Nat.le_of_ble_eq_true rfl) (by decide) (by decide) rfl (by decide) ?_
  refine mm_bipush (v := -3) rfl (by decide) ?_
  refine mm_icmp_ne (tgt := 90) rfl (by decide) (fun h84 => ?_) (fun h84 => ?_)
  · exact absurd rfl h84
  · refine mm_bipush (v := -3) rfl (by decide) ?_
    refine mm_ireturn rfl rfl rfl (by decide) (by decide) ?_
    exact ⟨rfl, rfl, rfl, rfl⟩
set_option maxRecDepth 100000 in
set_option maxHeartbeats 4000000 in
theorem lE_insN {E : mm_E} {G : mm_G} {J : mm_J} (hG : mm_GI G) {n m : Nat} (hT : ed_TI J n m) {q t : Nat} {c : Int32} {z : Option Value} (ht9 : t ≤ 9) (hp : J 1 3 = nI q) (hq : q ≤ n) (h : n + t ≤ 100) : mm_Go E qE_insert 57 [some (.ref 0), some (.int c), z] [.int (nI 0)] 86 (ed_fill J c t) G 0 0 (mm_Fm E qE_insert (mm_is (some (.int (nI 0))) 86 (mm_set (mm_set (mm_set (ed_ed (ed_fill J c t) 67 n m q 0 t) 1 3 (nI (q + t))) 0 8 (nI 100)) 0 7 (nI 1)) G)) := by
  have hn2 := hT.2.1
  have hfp : ed_fill J c t 1 3 = nI q := by rw [ed_fill_o J c (by decide)]; exact hp
  refine mm_istore_n rfl (by decide) ?_
  refine mm_aload_n rfl rfl ?_
  refine mm_getR rfl rfl rfl (by decide) rfl (mm_gi hG 0 2 16 (by decide)) ?_
  refine mm_aload_n rfl rfl ?_
  refine mm_getR rfl rfl rfl (by decide) rfl (mm_gi hG 0 0 1 (by decide)) ?_
  refine mm_aload_n rfl rfl ?_
  refine mm_getR rfl rfl rfl (by decide) rfl (mm_gi hG 0 0 1 (by decide)) ?_
  refine mm_getI (x := nI q) rfl rfl rfl (by decide) rfl hfp ?_
  refine mm_iconst (v := nI 0) rfl (by decide) ?_
  refine mm_aload_n rfl rfl ?_
  refine mm_getR rfl rfl rfl (by decide) rfl (mm_gi hG 0 6 67 (by decide)) ?_
  refine mm_iload_n rfl rfl ?_
  refine mm_isV5 (M2 := qH_edit) wd_240 qH_edit_k (by decide) (sH_ed1 (s := t) hG rfl (by decide) (hT.fill c t) (ed_fill_n J c t) (by omega) (by omega) (by omega)) rfl (by decide) (Nat.le_of_ble_eq_true rfl) (by decide) (by decide) rfl (by decide) ?_
  refine mm_bipush (v := -3) rfl (by decide) ?_
  refine mm_icmp_ne (tgt := 90) rfl (by decide) (fun h84 => ?_) (fun h84 => ?_)
  · refine mm_aload_n rfl rfl ?_
    refine mm_getR rfl rfl rfl (by decide) rfl (mm_gi hG 0 0 1 (by decide)) ?_
    refine mm_dup rfl rfl ?_
    refine mm_getI (x := nI q) rfl rfl rfl (by decide) rfl ((ed_ed_o (by decide)).trans hfp) ?_
    refine mm_aload_n rfl rfl ?_
    refine mm_getR rfl rfl rfl (by decide) rfl (mm_gi hG 0 6 67 (by decide)) ?_
    refine mm_getI (x := nI t) rfl rfl rfl (by decide) rfl ((ed_ed_o (by decide)).trans (ed_fill_n J c t)) ?_
    refine mm_iaddN rfl ?_
    refine mm_putI rfl rfl rfl (by decide) rfl (Or.inl rfl) rfl rfl ?_
    refine mm_aload_n rfl rfl ?_
    refine mm_bipush (v := nI 100) rfl (by decide) ?_
    refine mm_isV1 (M2 := qE_finish) wd_264 qE_finish_k (by decide) sE_finish rfl (by decide) (Nat.le_of_ble_eq_true rfl) (by decide) (by decide) rfl (by decide) ?_
    refine mm_iconst (v := nI 0) rfl (by decide) ?_
    refine mm_ireturn rfl rfl rfl (by decide) (by decide) ?_
    exact ⟨rfl, rfl, rfl, rfl⟩
  · exact absurd h84 (by decide)
set_option maxRecDepth 100000 in
set_option maxHeartbeats 4000000 in
theorem lE_insJ {E : mm_E} {G : mm_G} {J : mm_J} (hG : mm_GI G) {n m : Nat} (hT : ed_TI J n m) {q t : Nat} {c : Int32} {z : Option Value} (ht9 : t ≤ 9) (hp : J 1 3 = nI q) (hq : q ≤ n) (h : n + t ≤ 100) {u : Nat} (hu : J 18 (m % 20) = nI u) : mm_Go E qE_insert 57 [some (.ref 0), some (.int c), z] [.int (nI 1)] 86 (ed_fill J c t) G 0 0 (mm_Fm E qE_insert (mm_is (some (.int (nI 0))) 86 (mm_set (mm_set (mm_set (ed_rp (mm_set (ed_fill J c t) 18 (m % 20) (nI (u + t))) 67 n q 0 t) 1 3 (nI (q + t))) 0 8 (nI 100)) 0 7 (nI 1)) G)) := by
  have hn2 := hT.2.1
  have hfp : ed_fill J c t 1 3 = nI q := by rw [ed_fill_o J c (by decide)]; exact hp
  refine mm_istore_n rfl (by decide) ?_
  refine mm_aload_n rfl rfl ?_
  refine mm_getR rfl rfl rfl (by decide) rfl (mm_gi hG 0 2 16 (by decide)) ?_
  refine mm_aload_n rfl rfl ?_
  refine mm_getR rfl rfl rfl (by decide) rfl (mm_gi hG 0 0 1 (by decide)) ?_
  refine mm_aload_n rfl rfl ?_
  refine mm_getR rfl rfl rfl (by decide) rfl (mm_gi hG 0 0 1 (by decide)) ?_
  refine mm_getI (x := nI q) rfl rfl rfl (by decide) rfl hfp ?_
  refine mm_iconst (v := nI 0) rfl (by decide) ?_
  refine mm_aload_n rfl rfl ?_
  refine mm_getR rfl rfl rfl (by decide) rfl (mm_gi hG 0 6 67 (by decide)) ?_
  refine mm_iload_n rfl rfl ?_
  refine mm_isV5 (M2 := qH_edit) wd_240 qH_edit_k (by decide) (sH_edit2 (s := t) (q := u) hG rfl (hT.fill c t).1 hn2 (ed_fill_n J c t) (by omega) (by omega) (by decide) (by omega) (hT.fill c t).2.2.1 (hT.fill c t).2.2.2.1 (hT.fill c t).2.2.2.2.1 hT.2.2.2.2.2 (by rw [ed_fill_o J c (by decide)]; exact hu)) rfl (by decide) (Nat.le_of_ble_eq_true rfl) (by decide) (by decide) rfl (by decide) ?_
  refine mm_bipush (v := -3) rfl (by decide) ?_
  refine mm_icmp_ne (tgt := 90) rfl (by decide) (fun h84 => ?_) (fun h84 => ?_)
  · refine mm_aload_n rfl rfl ?_
    refine mm_getR rfl rfl rfl (by decide) rfl (mm_gi hG 0 0 1 (by decide)) ?_
    refine mm_dup rfl rfl ?_
    refine mm_getI (x := nI q) rfl rfl rfl (by decide) rfl ((ed_rp_o (by decide)).trans (by simp [mm_set]; exact hfp)) ?_
    refine mm_aload_n rfl rfl ?_
    refine mm_getR rfl rfl rfl (by decide) rfl (mm_gi hG 0 6 67 (by decide)) ?_
    refine mm_getI (x := nI t) rfl rfl rfl (by decide) rfl ((ed_rp_o (by decide)).trans (by simp [mm_set]; exact (ed_fill_n J c t))) ?_
    refine mm_iaddN rfl ?_
    refine mm_putI rfl rfl rfl (by decide) rfl (Or.inl rfl) rfl rfl ?_
    refine mm_aload_n rfl rfl ?_
    refine mm_bipush (v := nI 100) rfl (by decide) ?_
    refine mm_isV1 (M2 := qE_finish) wd_264 qE_finish_k (by decide) sE_finish rfl (by decide) (Nat.le_of_ble_eq_true rfl) (by decide) (by decide) rfl (by decide) ?_
    refine mm_iconst (v := nI 0) rfl (by decide) ?_
    refine mm_ireturn rfl rfl rfl (by decide) (by decide) ?_
    exact ⟨rfl, rfl, rfl, rfl⟩
  · exact absurd h84 (by decide)
set_option maxRecDepth 100000 in
set_option maxHeartbeats 4000000 in
theorem sE_insert0 {E : mm_E} {G : mm_G} {J : mm_J} (hG : mm_GI G) {n m : Nat} (hT : ed_TI J n m) {q t : Nat} {c : Int32} (ht : J 0 7 = nI t) (ht9 : t ≤ 9) (hp : J 1 3 = nI q) (hq : q ≤ n) {u : Nat} (hu : J 0 8 = nI 100 → J 18 (m % 20) = nI u) (hu2 : u ≤ 100) (h : 100 < n + t) : mm_Ret E qE_insert [.ref 0, .int c] 86 J G (some (.int (-3))) 86 (ed_fill J c t) G := by
  refine mm_Met.of qE_insert_ok (by decide) (mm_cats rfl) (Nat.le_of_ble_eq_true rfl) ?_
  refine mm_aload_n rfl rfl ?_
  refine mm_getR rfl rfl rfl (by decide) rfl (mm_gi hG 0 6 67 (by decide)) ?_
  refine mm_isV0 (M2 := qL_clear) wd_222 qL_clear_k (by decide) (sL_clear hG rfl) rfl (by decide) (Nat.le_of_ble_eq_true rfl) (by decide) (by decide) rfl (by decide) ?_
  refine mm_iconst (v := nI 0) rfl (by decide) ?_
  refine mm_istore_n rfl (by decide) ?_
  refine lE_insert hG ht ht9 ?_ t 0 rfl (Nat.zero_le _)
  refine mm_aload_n rfl rfl ?_
  refine mm_getI (x := J 0 8) rfl rfl rfl (by decide) rfl (by rw [ed_fill_o J c (by decide)]) ?_
  refine mm_bipush (v := nI 100) rfl (by decide) ?_
  refine mm_icmp_ne (tgt := 56) rfl (by decide) (fun h37 => ?_) (fun h37 => ?_)
  · refine mm_iconst (v := nI 0) rfl (by decide) ?_
    exact lE_insF hG hT ht9 hp hq h
  · refine mm_aload_n rfl rfl ?_
    refine mm_getR rfl rfl rfl (by decide) rfl (mm_gi hG 0 2 16 (by decide)) ?_
    refine mm_isV0 (M2 := qH_latestPut) wd_230 qH_latestPut_k (by decide) (sH_latestPut (q := u) hG (hT.fill c t).2.2.2.2.1 (by have := hT.2.2.2.2.2; omega) (by rw [ed_fill_o J c (by decide)]; exact hu h37)) rfl (by decide) (Nat.le_of_ble_eq_true rfl) (by decide) (by decide) rfl (by decide) ?_
    refine mm_bipush (v := nI 7) rfl (by decide) ?_
    refine mm_icmp_gtN (tgt := 56) rfl (by decide) (by omega) (by omega) (fun h49 => ?_) (fun h49 => ?_)
    · refine mm_iconst (v := nI 0) rfl (by decide) ?_
      exact lE_insF hG hT ht9 hp hq h
    · refine mm_iconst (v := nI 1) rfl (by decide) ?_
      refine mm_goto (tgt := 57) rfl (by decide) ?_
      exact lE_insF hG hT ht9 hp hq h
set_option maxRecDepth 100000 in
set_option maxHeartbeats 4000000 in
theorem sE_insert1 {E : mm_E} {G : mm_G} {J : mm_J} (hG : mm_GI G) {n m : Nat} (hT : ed_TI J n m) {q t : Nat} {c : Int32} (ht : J 0 7 = nI t) (ht9 : t ≤ 9) (hp : J 1 3 = nI q) (hq : q ≤ n) {u : Nat} (hu : J 0 8 = nI 100 → J 18 (m % 20) = nI u) (hu2 : u ≤ 100) (h : n + t ≤ 100) (hj : ¬ (J 0 8 = nI 100 ∧ u ≤ 7)) : mm_Ret E qE_insert [.ref 0, .int c] 86 J G (some (.int (nI 0))) 86 (mm_set (mm_set (mm_set (ed_ed (ed_fill J c t) 67 n m q 0 t) 1 3 (nI (q + t))) 0 8 (nI 100)) 0 7 (nI 1)) G := by
  refine mm_Met.of qE_insert_ok (by decide) (mm_cats rfl) (Nat.le_of_ble_eq_true rfl) ?_
  refine mm_aload_n rfl rfl ?_
  refine mm_getR rfl rfl rfl (by decide) rfl (mm_gi hG 0 6 67 (by decide)) ?_
  refine mm_isV0 (M2 := qL_clear) wd_222 qL_clear_k (by decide) (sL_clear hG rfl) rfl (by decide) (Nat.le_of_ble_eq_true rfl) (by decide) (by decide) rfl (by decide) ?_
  refine mm_iconst (v := nI 0) rfl (by decide) ?_
  refine mm_istore_n rfl (by decide) ?_
  refine lE_insert hG ht ht9 ?_ t 0 rfl (Nat.zero_le _)
  refine mm_aload_n rfl rfl ?_
  refine mm_getI (x := J 0 8) rfl rfl rfl (by decide) rfl (by rw [ed_fill_o J c (by decide)]) ?_
  refine mm_bipush (v := nI 100) rfl (by decide) ?_
  refine mm_icmp_ne (tgt := 56) rfl (by decide) (fun h37 => ?_) (fun h37 => ?_)
  · refine mm_iconst (v := nI 0) rfl (by decide) ?_
    exact lE_insN hG hT ht9 hp hq h
  · refine mm_aload_n rfl rfl ?_
    refine mm_getR rfl rfl rfl (by decide) rfl (mm_gi hG 0 2 16 (by decide)) ?_
    refine mm_isV0 (M2 := qH_latestPut) wd_230 qH_latestPut_k (by decide) (sH_latestPut (q := u) hG (hT.fill c t).2.2.2.2.1 (by have := hT.2.2.2.2.2; omega) (by rw [ed_fill_o J c (by decide)]; exact hu h37)) rfl (by decide) (Nat.le_of_ble_eq_true rfl) (by decide) (by decide) rfl (by decide) ?_
    refine mm_bipush (v := nI 7) rfl (by decide) ?_
    refine mm_icmp_gtN (tgt := 56) rfl (by decide) (by omega) (by omega) (fun h49 => ?_) (fun h49 => ?_)
    · refine mm_iconst (v := nI 0) rfl (by decide) ?_
      exact lE_insN hG hT ht9 hp hq h
    · exact absurd ⟨h37, by omega⟩ hj
set_option maxRecDepth 100000 in
set_option maxHeartbeats 4000000 in
theorem sE_insert2 {E : mm_E} {G : mm_G} {J : mm_J} (hG : mm_GI G) {n m : Nat} (hT : ed_TI J n m) {q t : Nat} {c : Int32} (ht : J 0 7 = nI t) (ht9 : t ≤ 9) (hp : J 1 3 = nI q) (hq : q ≤ n) {u : Nat} (hu : J 0 8 = nI 100 → J 18 (m % 20) = nI u) (hu2 : u ≤ 100) (h : n + t ≤ 100) (hj : J 0 8 = nI 100 ∧ u ≤ 7) : mm_Ret E qE_insert [.ref 0, .int c] 86 J G (some (.int (nI 0))) 86 (mm_set (mm_set (mm_set (ed_rp (mm_set (ed_fill J c t) 18 (m % 20) (nI (u + t))) 67 n q 0 t) 1 3 (nI (q + t))) 0 8 (nI 100)) 0 7 (nI 1)) G := by
  refine mm_Met.of qE_insert_ok (by decide) (mm_cats rfl) (Nat.le_of_ble_eq_true rfl) ?_
  refine mm_aload_n rfl rfl ?_
  refine mm_getR rfl rfl rfl (by decide) rfl (mm_gi hG 0 6 67 (by decide)) ?_
  refine mm_isV0 (M2 := qL_clear) wd_222 qL_clear_k (by decide) (sL_clear hG rfl) rfl (by decide) (Nat.le_of_ble_eq_true rfl) (by decide) (by decide) rfl (by decide) ?_
  refine mm_iconst (v := nI 0) rfl (by decide) ?_
  refine mm_istore_n rfl (by decide) ?_
  refine lE_insert hG ht ht9 ?_ t 0 rfl (Nat.zero_le _)
  refine mm_aload_n rfl rfl ?_
  refine mm_getI (x := J 0 8) rfl rfl rfl (by decide) rfl (by rw [ed_fill_o J c (by decide)]) ?_
  refine mm_bipush (v := nI 100) rfl (by decide) ?_
  refine mm_icmp_ne (tgt := 56) rfl (by decide) (fun h37 => ?_) (fun h37 => ?_)
  · exact absurd hj.1 h37
  · refine mm_aload_n rfl rfl ?_
    refine mm_getR rfl rfl rfl (by decide) rfl (mm_gi hG 0 2 16 (by decide)) ?_
    refine mm_isV0 (M2 := qH_latestPut) wd_230 qH_latestPut_k (by decide) (sH_latestPut (q := u) hG (hT.fill c t).2.2.2.2.1 (by have := hT.2.2.2.2.2; omega) (by rw [ed_fill_o J c (by decide)]; exact hu h37)) rfl (by decide) (Nat.le_of_ble_eq_true rfl) (by decide) (by decide) rfl (by decide) ?_
    refine mm_bipush (v := nI 7) rfl (by decide) ?_
    refine mm_icmp_gtN (tgt := 56) rfl (by decide) (by omega) (by omega) (fun h49 => ?_) (fun h49 => ?_)
    · exact absurd h49 (by omega)
    · refine mm_iconst (v := nI 1) rfl (by decide) ?_
      refine mm_goto (tgt := 57) rfl (by decide) ?_
      exact lE_insJ hG hT ht9 hp hq h (hu h37)
set_option maxRecDepth 100000 in
set_option maxHeartbeats 4000000 in
theorem sE_putOlderKill0 {E : mm_E} {G : mm_G} {J : mm_J} (h : ¬ J 0 8 = nI 13 ∧ ¬ J 0 8 = nI 14) : mm_Ret E qE_putOlderKill [.ref 0] 86 J G (some (.int (-2))) 86 J G := by
  refine mm_Met.of qE_putOlderKill_ok (by decide) (mm_cats rfl) (Nat.le_of_ble_eq_true rfl) ?_
  refine mm_aload_n rfl rfl ?_
  refine mm_getI rfl rfl rfl (by decide) rfl rfl ?_
  refine mm_bipush (v := nI 13) rfl (by decide) ?_
  refine mm_icmp_eq (tgt := 21) rfl (by decide) (fun h6 => ?_) (fun h6 => ?_)
  · exact absurd h6 h.1
  · refine mm_aload_n rfl rfl ?_
    refine mm_getI rfl rfl rfl (by decide) rfl rfl ?_
    refine mm_bipush (v := nI 14) rfl (by decide) ?_
    refine mm_icmp_eq (tgt := 21) rfl (by decide) (fun h15 => ?_) (fun h15 => ?_)
    · exact absurd h15 h.2
    · refine mm_bipush (v := -2) rfl (by decide) ?_
      refine mm_ireturn rfl rfl rfl (by decide) (by decide) ?_
      exact ⟨rfl, rfl, rfl, rfl⟩
set_option maxRecDepth 100000 in
set_option maxHeartbeats 4000000 in
theorem sE_putOlderKill1 {E : mm_E} {G : mm_G} {J : mm_J} (hG : mm_GI G) {n m : Nat} (hT : ed_TI J n m) (h : J 0 8 = nI 13 ∨ J 0 8 = nI 14) {c y k q : Nat} (hc : J 6 1 = nI c) (hc2 : c ≤ 4) (hy : J 0 10 = nI y) (hy2 : y < c) (hk : J 4 4 = nI k) (hp : J 1 3 = nI q) (hkq : k ≤ q) (hq : q ≤ n) {r s : Nat} (hg : G 7 (if y + 1 < c then y + 1 else 0) = some r) (hr : mm_SH r = .inl 2) (hrr : 8 ≤ r ∧ r ≤ 14) (hs : J r 1 = nI s) (hs2 : s ≤ 100) (hf : 100 < n - (q - k) + s) : mm_Ret E qE_putOlderKill [.ref 0] 86 J G (some (.int (-3))) 86 J G := by
  refine mm_Met.of qE_putOlderKill_ok (by decide) (mm_cats rfl) (Nat.le_of_ble_eq_true rfl) ?_
  refine mm_aload_n rfl rfl ?_
  refine mm_getI rfl rfl rfl (by decide) rfl rfl ?_
  refine mm_bipush (v := nI 13) rfl (by decide) ?_
  refine mm_icmp_eq (tgt := 21) rfl (by decide) (fun h6 => ?_) (fun h6 => ?_)
  · refine mm_aload_n rfl rfl ?_
    refine mm_getI (x := nI y) rfl rfl rfl (by decide) rfl hy ?_
    refine mm_iconst (v := nI 1) rfl (by decide) ?_
    refine mm_iaddN rfl ?_
    refine mm_aload_n rfl rfl ?_
    refine mm_getR rfl rfl rfl (by decide) rfl (mm_gi hG 0 1 6 (by decide)) ?_
    refine mm_getI (x := nI c) rfl rfl rfl (by decide) rfl hc ?_
    refine mm_icmp_geN (tgt := 46) rfl (by decide) (by omega) (by omega) (fun h34 => ?_) (fun h34 => ?_)
    · rw [if_neg (by omega)] at hg
      skip
      refine mm_iconst (v := nI 0) rfl (by decide) ?_
      refine mm_istore_n rfl (by decide) ?_
      refine mm_aload_n rfl rfl ?_
      refine mm_getR rfl rfl rfl (by decide) rfl (mm_gi hG 0 0 1 (by decide)) ?_
      refine mm_getR rfl rfl rfl (by decide) rfl (mm_gi hG 1 1 4 (by decide)) ?_
      refine mm_iconst (v := nI 4) rfl (by decide) ?_
      refine mm_rdN rfl (by decide) rfl (by decide) (by decide) (by decide) rfl hk ?_
      refine mm_istore_n rfl (by decide) ?_
      refine mm_aload_n rfl rfl ?_
      refine mm_iload_n rfl rfl ?_
      refine mm_iload_n rfl rfl ?_
      refine mm_aload_n rfl rfl ?_
      refine mm_getR rfl rfl rfl (by decide) rfl (mm_gi hG 0 0 1 (by decide)) ?_
      refine mm_getI (x := nI q) rfl rfl rfl (by decide) rfl hp ?_
      refine mm_iload_n rfl rfl ?_
      refine mm_isubN rfl (by omega) ?_
      refine mm_isV3 (M2 := qE_putKill) wd_374 qE_putKill_k (by decide) (sE_putKill1 hG hT hc hc2 (by omega) hg hr hrr hs hs2 (by omega) hf) rfl (by decide) (Nat.le_of_ble_eq_true rfl) (by decide) (by decide) rfl (by decide) ?_
      refine mm_ireturn rfl rfl rfl (by decide) (by decide) ?_
      exact ⟨rfl, rfl, rfl, rfl⟩
    · rw [if_pos h34] at hg
      skip
      refine mm_aload_n rfl rfl ?_
      refine mm_getI (x := nI y) rfl rfl rfl (by decide) rfl hy ?_
      refine mm_iconst (v := nI 1) rfl (by decide) ?_
      refine mm_iaddN rfl ?_
      refine mm_goto (tgt := 47) rfl (by decide) ?_
      refine mm_istore_n rfl (by decide) ?_
      refine mm_aload_n rfl rfl ?_
      refine mm_getR rfl rfl rfl (by decide) rfl (mm_gi hG 0 0 1 (by decide)) ?_
      refine mm_getR rfl rfl rfl (by decide) rfl (mm_gi hG 1 1 4 (by decide)) ?_
      refine mm_iconst (v := nI 4) rfl (by decide) ?_
      refine mm_rdN rfl (by decide) rfl (by decide) (by decide) (by decide) rfl hk ?_
      refine mm_istore_n rfl (by decide) ?_
      refine mm_aload_n rfl rfl ?_
      refine mm_iload_n rfl rfl ?_
      refine mm_iload_n rfl rfl ?_
      refine mm_aload_n rfl rfl ?_
      refine mm_getR rfl rfl rfl (by decide) rfl (mm_gi hG 0 0 1 (by decide)) ?_
      refine mm_getI (x := nI q) rfl rfl rfl (by decide) rfl hp ?_
      refine mm_iload_n rfl rfl ?_
      refine mm_isubN rfl (by omega) ?_
      refine mm_isV3 (M2 := qE_putKill) wd_374 qE_putKill_k (by decide) (sE_putKill1 hG hT hc hc2 (by omega) hg hr hrr hs hs2 (by omega) hf) rfl (by decide) (Nat.le_of_ble_eq_true rfl) (by decide) (by decide) rfl (by decide) ?_
      refine mm_ireturn rfl rfl rfl (by decide) (by decide) ?_
      exact ⟨rfl, rfl, rfl, rfl⟩
  · refine mm_aload_n rfl rfl ?_
    refine mm_getI rfl rfl rfl (by decide) rfl rfl ?_
    refine mm_bipush (v := nI 14) rfl (by decide) ?_
    refine mm_icmp_eq (tgt := 21) rfl (by decide) (fun h15 => ?_) (fun h15 => ?_)
    · refine mm_aload_n rfl rfl ?_
      refine mm_getI (x := nI y) rfl rfl rfl (by decide) rfl hy ?_
      refine mm_iconst (v := nI 1) rfl (by decide) ?_
      refine mm_iaddN rfl ?_
      refine mm_aload_n rfl rfl ?_
      refine mm_getR rfl rfl rfl (by decide) rfl (mm_gi hG 0 1 6 (by decide)) ?_
      refine mm_getI (x := nI c) rfl rfl rfl (by decide) rfl hc ?_
      refine mm_icmp_geN (tgt := 46) rfl (by decide) (by omega) (by omega) (fun h34 => ?_) (fun h34 => ?_)
      · rw [if_neg (by omega)] at hg
        skip
        refine mm_iconst (v := nI 0) rfl (by decide) ?_
        refine mm_istore_n rfl (by decide) ?_
        refine mm_aload_n rfl rfl ?_
        refine mm_getR rfl rfl rfl (by decide) rfl (mm_gi hG 0 0 1 (by decide)) ?_
        refine mm_getR rfl rfl rfl (by decide) rfl (mm_gi hG 1 1 4 (by decide)) ?_
        refine mm_iconst (v := nI 4) rfl (by decide) ?_
        refine mm_rdN rfl (by decide) rfl (by decide) (by decide) (by decide) rfl hk ?_
        refine mm_istore_n rfl (by decide) ?_
        refine mm_aload_n rfl rfl ?_
        refine mm_iload_n rfl rfl ?_
        refine mm_iload_n rfl rfl ?_
        refine mm_aload_n rfl rfl ?_
        refine mm_getR rfl rfl rfl (by decide) rfl (mm_gi hG 0 0 1 (by decide)) ?_
        refine mm_getI (x := nI q) rfl rfl rfl (by decide) rfl hp ?_
        refine mm_iload_n rfl rfl ?_
        refine mm_isubN rfl (by omega) ?_
        refine mm_isV3 (M2 := qE_putKill) wd_374 qE_putKill_k (by decide) (sE_putKill1 hG hT hc hc2 (by omega) hg hr hrr hs hs2 (by omega) hf) rfl (by decide) (Nat.le_of_ble_eq_true rfl) (by decide) (by decide) rfl (by decide) ?_
        refine mm_ireturn rfl rfl rfl (by decide) (by decide) ?_
        exact ⟨rfl, rfl, rfl, rfl⟩
      · rw [if_pos h34] at hg
        skip
        refine mm_aload_n rfl rfl ?_
        refine mm_getI (x := nI y) rfl rfl rfl (by decide) rfl hy ?_
        refine mm_iconst (v := nI 1) rfl (by decide) ?_
        refine mm_iaddN rfl ?_
        refine mm_goto (tgt := 47) rfl (by decide) ?_
        refine mm_istore_n rfl (by decide) ?_
        refine mm_aload_n rfl rfl ?_
        refine mm_getR rfl rfl rfl (by decide) rfl (mm_gi hG 0 0 1 (by decide)) ?_
        refine mm_getR rfl rfl rfl (by decide) rfl (mm_gi hG 1 1 4 (by decide)) ?_
        refine mm_iconst (v := nI 4) rfl (by decide) ?_
        refine mm_rdN rfl (by decide) rfl (by decide) (by decide) (by decide) rfl hk ?_
        refine mm_istore_n rfl (by decide) ?_
        refine mm_aload_n rfl rfl ?_
        refine mm_iload_n rfl rfl ?_
        refine mm_iload_n rfl rfl ?_
        refine mm_aload_n rfl rfl ?_
        refine mm_getR rfl rfl rfl (by decide) rfl (mm_gi hG 0 0 1 (by decide)) ?_
        refine mm_getI (x := nI q) rfl rfl rfl (by decide) rfl hp ?_
        refine mm_iload_n rfl rfl ?_
        refine mm_isubN rfl (by omega) ?_
        refine mm_isV3 (M2 := qE_putKill) wd_374 qE_putKill_k (by decide) (sE_putKill1 hG hT hc hc2 (by omega) hg hr hrr hs hs2 (by omega) hf) rfl (by decide) (Nat.le_of_ble_eq_true rfl) (by decide) (by decide) rfl (by decide) ?_
        refine mm_ireturn rfl rfl rfl (by decide) (by decide) ?_
        exact ⟨rfl, rfl, rfl, rfl⟩
    · exact absurd h (fun q => q.elim h6 h15)
set_option maxRecDepth 100000 in
set_option maxHeartbeats 4000000 in
theorem sE_putOlderKill2 {E : mm_E} {G : mm_G} {J : mm_J} (hG : mm_GI G) {n m : Nat} (hT : ed_TI J n m) (h : J 0 8 = nI 13 ∨ J 0 8 = nI 14) {c y k q : Nat} (hc : J 6 1 = nI c) (hc2 : c ≤ 4) (hy : J 0 10 = nI y) (hy2 : y < c) (hk : J 4 4 = nI k) (hp : J 1 3 = nI q) (hkq : k ≤ q) (hq : q ≤ n) {r s : Nat} (hg : G 7 (if y + 1 < c then y + 1 else 0) = some r) (hr : mm_SH r = .inl 2) (hrr : 8 ≤ r ∧ r ≤ 14) (hs : J r 1 = nI s) (hs2 : s ≤ 100) (hf : n - (q - k) + s ≤ 100) : mm_Ret E qE_putOlderKill [.ref 0] 86 J G (some (.int (nI 0))) 86 (mm_set (mm_set (mm_set (ed_ed J r n m k (q - k) s) 0 10 (nI (if y + 1 < c then y + 1 else 0))) 1 3 (nI (k + s))) 4 4 (nI k)) G := by
  refine mm_Met.of qE_putOlderKill_ok (by decide) (mm_cats rfl) (Nat.le_of_ble_eq_true rfl) ?_
  refine mm_aload_n rfl rfl ?_
  refine mm_getI rfl rfl rfl (by decide) rfl rfl ?_
  refine mm_bipush (v := nI 13) rfl (by decide) ?_
  refine mm_icmp_eq (tgt := 21) rfl (by decide) (fun h6 => ?_) (fun h6 => ?_)
  · refine mm_aload_n rfl rfl ?_
    refine mm_getI (x := nI y) rfl rfl rfl (by decide) rfl hy ?_
    refine mm_iconst (v := nI 1) rfl (by decide) ?_
    refine mm_iaddN rfl ?_
    refine mm_aload_n rfl rfl ?_
    refine mm_getR rfl rfl rfl (by decide) rfl (mm_gi hG 0 1 6 (by decide)) ?_
    refine mm_getI (x := nI c) rfl rfl rfl (by decide) rfl hc ?_
    refine mm_icmp_geN (tgt := 46) rfl (by decide) (by omega) (by omega) (fun h34 => ?_) (fun h34 => ?_)
    · rw [if_neg (by omega)] at hg
      rw [show (if y + 1 < c then y + 1 else 0) = 0 from if_neg (by omega)]
      refine mm_iconst (v := nI 0) rfl (by decide) ?_
      refine mm_istore_n rfl (by decide) ?_
      refine mm_aload_n rfl rfl ?_
      refine mm_getR rfl rfl rfl (by decide) rfl (mm_gi hG 0 0 1 (by decide)) ?_
      refine mm_getR rfl rfl rfl (by decide) rfl (mm_gi hG 1 1 4 (by decide)) ?_
      refine mm_iconst (v := nI 4) rfl (by decide) ?_
      refine mm_rdN rfl (by decide) rfl (by decide) (by decide) (by decide) rfl hk ?_
      refine mm_istore_n rfl (by decide) ?_
      refine mm_aload_n rfl rfl ?_
      refine mm_iload_n rfl rfl ?_
      refine mm_iload_n rfl rfl ?_
      refine mm_aload_n rfl rfl ?_
      refine mm_getR rfl rfl rfl (by decide) rfl (mm_gi hG 0 0 1 (by decide)) ?_
      refine mm_getI (x := nI q) rfl rfl rfl (by decide) rfl hp ?_
      refine mm_iload_n rfl rfl ?_
      refine mm_isubN rfl (by omega) ?_
      refine mm_isV3 (M2 := qE_putKill) wd_374 qE_putKill_k (by decide) (sE_putKill2 hG hT hc hc2 (by omega) hg hr hrr hs hs2 (by omega) hf) rfl (by decide) (Nat.le_of_ble_eq_true rfl) (by decide) (by decide) rfl (by decide) ?_
      refine mm_ireturn rfl rfl rfl (by decide) (by decide) ?_
      exact ⟨rfl, rfl, rfl, rfl⟩
    · rw [if_pos h34] at hg
      rw [show (if y + 1 < c then y + 1 else 0) = y + 1 from if_pos (by omega)]
      refine mm_aload_n rfl rfl ?_
      refine mm_getI (x := nI y) rfl rfl rfl (by decide) rfl hy ?_
      refine mm_iconst (v := nI 1) rfl (by decide) ?_
      refine mm_iaddN rfl ?_
      refine mm_goto (tgt := 47) rfl (by decide) ?_
      refine mm_istore_n rfl (by decide) ?_
      refine mm_aload_n rfl rfl ?_
      refine mm_getR rfl rfl rfl (by decide) rfl (mm_gi hG 0 0 1 (by decide)) ?_
      refine mm_getR rfl rfl rfl (by decide) rfl (mm_gi hG 1 1 4 (by decide)) ?_
      refine mm_iconst (v := nI 4) rfl (by decide) ?_
      refine mm_rdN rfl (by decide) rfl (by decide) (by decide) (by decide) rfl hk ?_
      refine mm_istore_n rfl (by decide) ?_
      refine mm_aload_n rfl rfl ?_
      refine mm_iload_n rfl rfl ?_
      refine mm_iload_n rfl rfl ?_
      refine mm_aload_n rfl rfl ?_
      refine mm_getR rfl rfl rfl (by decide) rfl (mm_gi hG 0 0 1 (by decide)) ?_
      refine mm_getI (x := nI q) rfl rfl rfl (by decide) rfl hp ?_
      refine mm_iload_n rfl rfl ?_
      refine mm_isubN rfl (by omega) ?_
      refine mm_isV3 (M2 := qE_putKill) wd_374 qE_putKill_k (by decide) (sE_putKill2 hG hT hc hc2 (by omega) hg hr hrr hs hs2 (by omega) hf) rfl (by decide) (Nat.le_of_ble_eq_true rfl) (by decide) (by decide) rfl (by decide) ?_
      refine mm_ireturn rfl rfl rfl (by decide) (by decide) ?_
      exact ⟨rfl, rfl, rfl, rfl⟩
  · refine mm_aload_n rfl rfl ?_
    refine mm_getI rfl rfl rfl (by decide) rfl rfl ?_
    refine mm_bipush (v := nI 14) rfl (by decide) ?_
    refine mm_icmp_eq (tgt := 21) rfl (by decide) (fun h15 => ?_) (fun h15 => ?_)
    · refine mm_aload_n rfl rfl ?_
      refine mm_getI (x := nI y) rfl rfl rfl (by decide) rfl hy ?_
      refine mm_iconst (v := nI 1) rfl (by decide) ?_
      refine mm_iaddN rfl ?_
      refine mm_aload_n rfl rfl ?_
      refine mm_getR rfl rfl rfl (by decide) rfl (mm_gi hG 0 1 6 (by decide)) ?_
      refine mm_getI (x := nI c) rfl rfl rfl (by decide) rfl hc ?_
      refine mm_icmp_geN (tgt := 46) rfl (by decide) (by omega) (by omega) (fun h34 => ?_) (fun h34 => ?_)
      · rw [if_neg (by omega)] at hg
        rw [show (if y + 1 < c then y + 1 else 0) = 0 from if_neg (by omega)]
        refine mm_iconst (v := nI 0) rfl (by decide) ?_
        refine mm_istore_n rfl (by decide) ?_
        refine mm_aload_n rfl rfl ?_
        refine mm_getR rfl rfl rfl (by decide) rfl (mm_gi hG 0 0 1 (by decide)) ?_
        refine mm_getR rfl rfl rfl (by decide) rfl (mm_gi hG 1 1 4 (by decide)) ?_
        refine mm_iconst (v := nI 4) rfl (by decide) ?_
        refine mm_rdN rfl (by decide) rfl (by decide) (by decide) (by decide) rfl hk ?_
        refine mm_istore_n rfl (by decide) ?_
        refine mm_aload_n rfl rfl ?_
        refine mm_iload_n rfl rfl ?_
        refine mm_iload_n rfl rfl ?_
        refine mm_aload_n rfl rfl ?_
        refine mm_getR rfl rfl rfl (by decide) rfl (mm_gi hG 0 0 1 (by decide)) ?_
        refine mm_getI (x := nI q) rfl rfl rfl (by decide) rfl hp ?_
        refine mm_iload_n rfl rfl ?_
        refine mm_isubN rfl (by omega) ?_
        refine mm_isV3 (M2 := qE_putKill) wd_374 qE_putKill_k (by decide) (sE_putKill2 hG hT hc hc2 (by omega) hg hr hrr hs hs2 (by omega) hf) rfl (by decide) (Nat.le_of_ble_eq_true rfl) (by decide) (by decide) rfl (by decide) ?_
        refine mm_ireturn rfl rfl rfl (by decide) (by decide) ?_
        exact ⟨rfl, rfl, rfl, rfl⟩
      · rw [if_pos h34] at hg
        rw [show (if y + 1 < c then y + 1 else 0) = y + 1 from if_pos (by omega)]
        refine mm_aload_n rfl rfl ?_
        refine mm_getI (x := nI y) rfl rfl rfl (by decide) rfl hy ?_
        refine mm_iconst (v := nI 1) rfl (by decide) ?_
        refine mm_iaddN rfl ?_
        refine mm_goto (tgt := 47) rfl (by decide) ?_
        refine mm_istore_n rfl (by decide) ?_
        refine mm_aload_n rfl rfl ?_
        refine mm_getR rfl rfl rfl (by decide) rfl (mm_gi hG 0 0 1 (by decide)) ?_
        refine mm_getR rfl rfl rfl (by decide) rfl (mm_gi hG 1 1 4 (by decide)) ?_
        refine mm_iconst (v := nI 4) rfl (by decide) ?_
        refine mm_rdN rfl (by decide) rfl (by decide) (by decide) (by decide) rfl hk ?_
        refine mm_istore_n rfl (by decide) ?_
        refine mm_aload_n rfl rfl ?_
        refine mm_iload_n rfl rfl ?_
        refine mm_iload_n rfl rfl ?_
        refine mm_aload_n rfl rfl ?_
        refine mm_getR rfl rfl rfl (by decide) rfl (mm_gi hG 0 0 1 (by decide)) ?_
        refine mm_getI (x := nI q) rfl rfl rfl (by decide) rfl hp ?_
        refine mm_iload_n rfl rfl ?_
        refine mm_isubN rfl (by omega) ?_
        refine mm_isV3 (M2 := qE_putKill) wd_374 qE_putKill_k (by decide) (sE_putKill2 hG hT hc hc2 (by omega) hg hr hrr hs hs2 (by omega) hf) rfl (by decide) (Nat.le_of_ble_eq_true rfl) (by decide) (by decide) rfl (by decide) ?_
        refine mm_ireturn rfl rfl rfl (by decide) (by decide) ?_
        exact ⟨rfl, rfl, rfl, rfl⟩
    · exact absurd h (fun q => q.elim h6 h15)
set_option maxRecDepth 100000 in
set_option maxHeartbeats 4000000 in
theorem sE_swapMark0 {E : mm_E} {G : mm_G} {J : mm_J} (hG : mm_GI G) (hk : J 4 4 = -2) : mm_Ret E qE_swapMark [.ref 0] 86 J G (some (.int (-2))) 86 J G := by
  refine mm_Met.of qE_swapMark_ok (by decide) (mm_cats rfl) (Nat.le_of_ble_eq_true rfl) ?_
  refine mm_aload_n rfl rfl ?_
  refine mm_getR rfl rfl rfl (by decide) rfl (mm_gi hG 0 0 1 (by decide)) ?_
  refine mm_getR rfl rfl rfl (by decide) rfl (mm_gi hG 1 1 4 (by decide)) ?_
  refine mm_iconst (v := nI 4) rfl (by decide) ?_
  refine mm_rdN rfl (by decide) rfl (by decide) (by decide) (by decide) rfl hk ?_
  refine mm_istore_n rfl (by decide) ?_
  refine mm_iload_n rfl rfl ?_
  refine mm_bipush (v := -2) rfl (by decide) ?_
  refine mm_icmp_ne (tgt := 19) rfl (by decide) (fun h13 => ?_) (fun h13 => ?_)
  · exact absurd rfl h13
  · refine mm_bipush (v := -2) rfl (by decide) ?_
    refine mm_ireturn rfl rfl rfl (by decide) (by decide) ?_
    exact ⟨rfl, rfl, rfl, rfl⟩
set_option maxRecDepth 100000 in
set_option maxHeartbeats 4000000 in
theorem sE_swapMark1 {E : mm_E} {G : mm_G} {J : mm_J} (hG : mm_GI G) {k : Nat} (hk : J 4 4 = nI k) (hk2 : k ≤ 100) : mm_Ret E qE_swapMark [.ref 0] 86 J G (some (.int (nI 0))) 86 (mm_set (mm_set J 4 4 (J 1 3)) 1 3 (nI k)) G := by
  refine mm_Met.of qE_swapMark_ok (by decide) (mm_cats rfl) (Nat.le_of_ble_eq_true rfl) ?_
  refine mm_aload_n rfl rfl ?_
  refine mm_getR rfl rfl rfl (by decide) rfl (mm_gi hG 0 0 1 (by decide)) ?_
  refine mm_getR rfl rfl rfl (by decide) rfl (mm_gi hG 1 1 4 (by decide)) ?_
  refine mm_iconst (v := nI 4) rfl (by decide) ?_
  refine mm_rdN rfl (by decide) rfl (by decide) (by decide) (by decide) rfl hk ?_
  refine mm_istore_n rfl (by decide) ?_
  refine mm_iload_n rfl rfl ?_
  refine mm_bipush (v := -2) rfl (by decide) ?_
  refine mm_icmp_ne (tgt := 19) rfl (by decide) (fun h13 => ?_) (fun h13 => ?_)
  · refine mm_aload_n rfl rfl ?_
    refine mm_aload_n rfl rfl ?_
    refine mm_getR rfl rfl rfl (by decide) rfl (mm_gi hG 0 0 1 (by decide)) ?_
    refine mm_getI rfl rfl rfl (by decide) rfl rfl ?_
    refine mm_isV1 (M2 := qE_setMark) wd_378 qE_setMark_k (by decide) (sE_setMark hG) rfl (by decide) (Nat.le_of_ble_eq_true rfl) (by decide) (by decide) rfl (by decide) ?_
    refine mm_pop rfl rfl ?_
    refine mm_aload_n rfl rfl ?_
    refine mm_iload_n rfl rfl ?_
    refine mm_isV1 (M2 := qE_moveTo) wd_301 qE_moveTo_k (by decide) (sE_moveTo hG) rfl (by decide) (Nat.le_of_ble_eq_true rfl) (by decide) (by decide) rfl (by decide) ?_
    refine mm_ireturn rfl rfl rfl (by decide) (by decide) ?_
    exact ⟨rfl, rfl, rfl, rfl⟩
  · exact absurd h13 (ed_m2n (by omega))
set_option maxRecDepth 100000 in
set_option maxHeartbeats 4000000 in
theorem sE_swapCharacters0 {E : mm_E} {G : mm_G} {J : mm_J} (hG : mm_GI G) {n m : Nat} (hT : ed_TI J n m) {q : Nat} (hp : J 1 3 = nI q) (hq : q ≤ n) (h : q = 0 ∨ q = n) : mm_Ret E qE_swapCharacters [.ref 0] 86 J G (some (.int (-2))) 86 J G := by
  refine mm_Met.of qE_swapCharacters_ok (by decide) (mm_cats rfl) (Nat.le_of_ble_eq_true rfl) ?_
  have hn2 := hT.2.1
  refine mm_aload_n rfl rfl ?_
  refine mm_getR rfl rfl rfl (by decide) rfl (mm_gi hG 0 0 1 (by decide)) ?_
  refine mm_getI (x := nI q) rfl rfl rfl (by decide) rfl hp ?_
  refine mm_istore_n rfl (by decide) ?_
  refine mm_iload_n rfl rfl ?_
  refine mm_iconst (v := nI 1) rfl (by decide) ?_
  refine mm_icmp_ltN (tgt := 27) rfl (by decide) (by omega) (by omega) (fun h10 => ?_) (fun h10 => ?_)
  · refine mm_bipush (v := -2) rfl (by decide) ?_
    refine mm_ireturn rfl rfl rfl (by decide) (by decide) ?_
    exact ⟨rfl, rfl, rfl, rfl⟩
  · refine mm_iload_n rfl rfl ?_
    refine mm_aload_n rfl rfl ?_
    refine mm_getR rfl rfl rfl (by decide) rfl (mm_gi hG 0 0 1 (by decide)) ?_
    refine mm_getR rfl rfl rfl (by decide) rfl (mm_gi hG 1 0 2 (by decide)) ?_
    refine mm_getI (x := nI n) rfl rfl rfl (by decide) rfl hT.1 ?_
    refine mm_icmp_ltN (tgt := 30) rfl (by decide) (by omega) (by omega) (fun h24 => ?_) (fun h24 => ?_)
    · exact absurd h24 (by omega)
    · refine mm_bipush (v := -2) rfl (by decide) ?_
      refine mm_ireturn rfl rfl rfl (by decide) (by decide) ?_
      exact ⟨rfl, rfl, rfl, rfl⟩
set_option maxRecDepth 100000 in
set_option maxHeartbeats 4000000 in
theorem sE_swapCharacters1 {E : mm_E} {G : mm_G} {J : mm_J} (hG : mm_GI G) {n m : Nat} (hT : ed_TI J n m) {q : Nat} (hp : J 1 3 = nI q) (hq : q ≤ n) (h1 : 0 < q) (h2 : q < n) : mm_Ret E qE_swapCharacters [.ref 0] 86 J G (some (.int (nI 0))) 86 (mm_set (ed_ed (mm_set (mm_set (mm_set (mm_set (mm_set J 67 1 (nI 0)) 68 0 (J 3 q)) 67 1 (nI (0 + 1))) 68 (0 + 1) (J 3 (q - 1))) 67 1 (nI (0 + 1 + 1))) 67 n m (q - 1) 2 2) 1 3 (nI (q + 1))) G := by
  refine mm_Met.of qE_swapCharacters_ok (by decide) (mm_cats rfl) (Nat.le_of_ble_eq_true rfl) ?_
  have hn2 := hT.2.1
  refine mm_aload_n rfl rfl ?_
  refine mm_getR rfl rfl rfl (by decide) rfl (mm_gi hG 0 0 1 (by decide)) ?_
  refine mm_getI (x := nI q) rfl rfl rfl (by decide) rfl hp ?_
  refine mm_istore_n rfl (by decide) ?_
  refine mm_iload_n rfl rfl ?_
  refine mm_iconst (v := nI 1) rfl (by decide) ?_
  refine mm_icmp_ltN (tgt := 27) rfl (by decide) (by omega) (by omega) (fun h10 => ?_) (fun h10 => ?_)
  · exact absurd h10 (by omega)
  · refine mm_iload_n rfl rfl ?_
    refine mm_aload_n rfl rfl ?_
    refine mm_getR rfl rfl rfl (by decide) rfl (mm_gi hG 0 0 1 (by decide)) ?_
    refine mm_getR rfl rfl rfl (by decide) rfl (mm_gi hG 1 0 2 (by decide)) ?_
    refine mm_getI (x := nI n) rfl rfl rfl (by decide) rfl hT.1 ?_
    refine mm_icmp_ltN (tgt := 30) rfl (by decide) (by omega) (by omega) (fun h24 => ?_) (fun h24 => ?_)
    · refine mm_aload_n rfl rfl ?_
      refine mm_getR rfl rfl rfl (by decide) rfl (mm_gi hG 0 6 67 (by decide)) ?_
      refine mm_isV0 (M2 := qL_clear) wd_222 qL_clear_k (by decide) (sL_clear hG rfl) rfl (by decide) (Nat.le_of_ble_eq_true rfl) (by decide) (by decide) rfl (by decide) ?_
      refine mm_aload_n rfl rfl ?_
      refine mm_getR rfl rfl rfl (by decide) rfl (mm_gi hG 0 6 67 (by decide)) ?_
      refine mm_aload_n rfl rfl ?_
      refine mm_getR rfl rfl rfl (by decide) rfl (mm_gi hG 0 0 1 (by decide)) ?_
      refine mm_getR rfl rfl rfl (by decide) rfl (mm_gi hG 1 0 2 (by decide)) ?_
      refine mm_getR rfl rfl rfl (by decide) rfl (mm_gi hG 2 0 3 (by decide)) ?_
      refine mm_iload_n rfl rfl ?_
      refine mm_rdN (x := J 3 q) rfl (by decide) rfl (by decide) (by omega) (by decide) rfl (by simp [mm_set]) ?_
      refine mm_isV1 (M2 := qL_add) wd_226 qL_add_k (by decide) (sL_add (k := 0) hG rfl (by simp [mm_set]) (by decide)) rfl (by decide) (Nat.le_of_ble_eq_true rfl) (by decide) (by decide) rfl (by decide) ?_
      refine mm_aload_n rfl rfl ?_
      refine mm_getR rfl rfl rfl (by decide) rfl (mm_gi hG 0 6 67 (by decide)) ?_
      refine mm_aload_n rfl rfl ?_
      refine mm_getR rfl rfl rfl (by decide) rfl (mm_gi hG 0 0 1 (by decide)) ?_
      refine mm_getR rfl rfl rfl (by decide) rfl (mm_gi hG 1 0 2 (by decide)) ?_
      refine mm_getR rfl rfl rfl (by decide) rfl (mm_gi hG 2 0 3 (by decide)) ?_
      refine mm_iload_n rfl rfl ?_
      refine mm_iconst (v := nI 1) rfl (by decide) ?_
      refine mm_isubN rfl (by omega) ?_
      refine mm_rdN (x := J 3 (q - 1)) rfl (by decide) rfl (by decide) (by omega) (by decide) rfl (by simp [mm_set]) ?_
      refine mm_isV1 (M2 := qL_add) wd_226 qL_add_k (by decide) (sL_add (k := 0 + 1) hG rfl (by simp [mm_set]) (by decide)) rfl (by decide) (Nat.le_of_ble_eq_true rfl) (by decide) (by decide) rfl (by decide) ?_
      refine mm_aload_n rfl rfl ?_
      refine mm_getR rfl rfl rfl (by decide) rfl (mm_gi hG 0 2 16 (by decide)) ?_
      refine mm_aload_n rfl rfl ?_
      refine mm_getR rfl rfl rfl (by decide) rfl (mm_gi hG 0 0 1 (by decide)) ?_
      refine mm_iload_n rfl rfl ?_
      refine mm_iconst (v := nI 1) rfl (by decide) ?_
      refine mm_isubN rfl (by omega) ?_
      refine mm_iconst (v := nI 2) rfl (by decide) ?_
      refine mm_aload_n rfl rfl ?_
      refine mm_getR rfl rfl rfl (by decide) rfl (mm_gi hG 0 6 67 (by decide)) ?_
      refine mm_iconst (v := nI 0) rfl (by decide) ?_
      refine mm_isV5 (M2 := qH_edit) wd_240 qH_edit_k (by decide) (sH_ed1 (s := 2) (n := n) (m := m) hG rfl (by decide) (hT.fr rfl rfl rfl rfl) (by simp [mm_set]) (by omega) (by omega) (by omega)) rfl (by decide) (Nat.le_of_ble_eq_true rfl) (by decide) (by decide) rfl (by decide) ?_
      refine mm_pop rfl rfl ?_
      refine mm_aload_n rfl rfl ?_
      refine mm_iload_n rfl rfl ?_
      refine mm_iconst (v := nI 1) rfl (by decide) ?_
      refine mm_iaddN rfl ?_
      refine mm_isV1 (M2 := qE_moveTo) wd_301 qE_moveTo_k (by decide) (sE_moveTo hG) rfl (by decide) (Nat.le_of_ble_eq_true rfl) (by decide) (by decide) rfl (by decide) ?_
      refine mm_ireturn rfl rfl rfl (by decide) (by decide) ?_
      exact ⟨rfl, rfl, rfl, rfl⟩
    · exact absurd h24 (by omega)
end
section
set_option maxRecDepth 100000 in
set_option maxHeartbeats 400000 in
theorem lE_undo0 {E : mm_E} {G : mm_G} {J : mm_J} (hG : mm_GI G) {n m : Nat} (hT : ed_TI J n m) {u : Nat} (h : u = 0 ∨ u + 20 ≤ m) (hum : u ≤ m) : mm_Go E qE_undo 25 [some (.ref 0), none, none, none, none] [.int (nI u)] 86 J G 0 0 (mm_Fm E qE_undo (mm_is (some (.int (-2))) 86 J G)) := by
  refine mm_istore_n rfl (by decide) ?_
  refine mm_aload_n rfl rfl ?_
  refine mm_getR rfl rfl rfl (by decide) rfl (mm_gi hG 0 2 16 (by decide)) ?_
  refine mm_iload_n rfl rfl ?_
  refine mm_isV1 (M2 := qH_keeps) wd_398 qH_keeps_k (by decide) (sH_keeps0 hG hT.2.2.2.2.1 hT.2.2.2.2.2 hum h) rfl (by decide) (Nat.le_of_ble_eq_true rfl) (by decide) (by decide) rfl (by decide) ?_
  refine mm_if_neN (tgt := 40) rfl (by decide) (by omega) (fun h34 => ?_) (fun h34 => ?_)
  · exact absurd rfl h34
  · refine mm_bipush (v := -2) rfl (by decide) ?_
    refine mm_ireturn rfl rfl rfl (by decide) (by decide) ?_
    exact ⟨rfl, rfl, rfl, rfl⟩
set_option maxRecDepth 100000 in
set_option maxHeartbeats 400000 in
theorem lE_undo1 {E : mm_E} {G : mm_G} {J : mm_J} (hG : mm_GI G) {n m : Nat} (hT : ed_TI J n m) {u a pu tk : Nat} (h1 : 1 ≤ u) (h2 : u ≤ m) (h3 : m < u + 20) (ha : J 17 (u % 20) = nI a) (hpu : J 18 (u % 20) = nI pu) (htk : J (20 + 2 * (u % 20)) 1 = nI tk) (htk2 : tk ≤ 100) (hap : a + pu ≤ n) (hnt : n - pu + tk ≤ 100) : mm_Go E qE_undo 25 [some (.ref 0), none, none, none, none] [.int (nI u)] 86 J G 0 0 (mm_Fm E qE_undo (mm_is (some (.int (nI 0))) 86 (mm_set (mm_set (ed_ed (mm_set (mm_cp (mm_set J 67 1 (nI 0)) (20 + 2 * (u % 20) + 1) (67 + 1) 0 0 tk) 67 1 (nI tk)) 67 n m a pu tk) 0 11 (nI u)) 1 3 (nI (a + tk))) G)) := by
  have hn2 := hT.2.1
  have hm2 := hT.2.2.2.2.2
  have hk20 : u % 20 < 20 := ed_mod
  refine mm_istore_n rfl (by decide) ?_
  refine mm_aload_n rfl rfl ?_
  refine mm_getR rfl rfl rfl (by decide) rfl (mm_gi hG 0 2 16 (by decide)) ?_
  refine mm_iload_n rfl rfl ?_
  refine mm_isV1 (M2 := qH_keeps) wd_398 qH_keeps_k (by decide) (sH_keeps1 hG hT.2.2.2.2.1 hm2 h1 h2 h3) rfl (by decide) (Nat.le_of_ble_eq_true rfl) (by decide) (by decide) rfl (by decide) ?_
  refine mm_if_neN (tgt := 40) rfl (by decide) (by omega) (fun h34 => ?_) (fun h34 => ?_)
  · refine mm_iload_n rfl rfl ?_
    refine mm_isS1 (M2 := qH_slotOf) wd_402 qH_slotOf_k (by decide) (sH_slotOf (by omega)) (Nat.le_of_ble_eq_true rfl) (by decide) (by decide) rfl (by decide) ?_
    refine mm_istore_n rfl (by decide) ?_
    refine mm_aload_n rfl rfl ?_
    refine mm_getR rfl rfl rfl (by decide) rfl (mm_gi hG 0 2 16 (by decide)) ?_
    refine mm_getR rfl rfl rfl (by decide) rfl (mm_gi hG 16 0 17 (by decide)) ?_
    refine mm_iload_n rfl rfl ?_
    refine mm_rdN rfl (by decide) rfl (by decide) ed_mod (by decide) rfl ha ?_
    refine mm_istore_n rfl (by decide) ?_
    refine mm_aload_n rfl rfl ?_
    refine mm_getR rfl rfl rfl (by decide) rfl (mm_gi hG 0 2 16 (by decide)) ?_
    refine mm_getR rfl rfl rfl (by decide) rfl (mm_gi hG 16 2 19 (by decide)) ?_
    refine mm_iload_n rfl rfl ?_
    refine mm_rrN rfl (by decide) rfl rfl (by decide) ed_mod (by decide) (hG.2.1 _ ed_mod) rfl ?_
    refine mm_astore rfl (by decide) ?_
    refine mm_aload_n rfl rfl ?_
    refine mm_getR rfl rfl rfl (by decide) rfl (mm_gi hG 0 6 67 (by decide)) ?_
    refine mm_isV0 (M2 := qL_clear) wd_222 qL_clear_k (by decide) (sL_clear hG rfl) rfl (by decide) (Nat.le_of_ble_eq_true rfl) (by decide) (by decide) rfl (by decide) ?_
    refine mm_aload_n rfl rfl ?_
    refine mm_getR rfl rfl rfl (by decide) rfl (mm_gi hG 0 6 67 (by decide)) ?_
    refine mm_aload rfl rfl ?_
    refine mm_iconst (v := nI 0) rfl (by decide) ?_
    refine mm_aload rfl rfl ?_
    refine mm_getI (x := nI tk) rfl rfl (mm_sy _ ed_mod) (mm_l1 (mm_sy _ ed_mod)) rfl (by simp [mm_set, htk, show ¬ 20 + 2 * (u % 20) = 67 by omega]) ?_
    refine mm_isV3 (M2 := qL_append) wd_403 qL_append_k (by decide) (sL_append (k := 0) (m := tk) hG rfl (mm_sy _ ed_mod) (by omega) (by simp [mm_set]) (by simp [mm_set, htk, show ¬ 20 + 2 * (u % 20) = 67 by omega]) (Nat.zero_le _) (Nat.le_refl _) htk2 (by omega)) rfl (by decide) (Nat.le_of_ble_eq_true rfl) (by decide) (by decide) rfl (by decide) ?_
    rw [Nat.sub_zero, Nat.zero_add]
    refine mm_aload_n rfl rfl ?_
    refine mm_getR rfl rfl rfl (by decide) rfl (mm_gi hG 0 2 16 (by decide)) ?_
    refine mm_aload_n rfl rfl ?_
    refine mm_getR rfl rfl rfl (by decide) rfl (mm_gi hG 0 0 1 (by decide)) ?_
    refine mm_iload_n rfl rfl ?_
    refine mm_aload_n rfl rfl ?_
    refine mm_getR rfl rfl rfl (by decide) rfl (mm_gi hG 0 2 16 (by decide)) ?_
    refine mm_getR rfl rfl rfl (by decide) rfl (mm_gi hG 16 1 18 (by decide)) ?_
    refine mm_iload_n rfl rfl ?_
    refine mm_rdN (x := nI pu) rfl (by decide) rfl (by decide) ed_mod (by decide) rfl (by simp [mm_set, mm_cp, hpu]) ?_
    refine mm_aload_n rfl rfl ?_
    refine mm_getR rfl rfl rfl (by decide) rfl (mm_gi hG 0 6 67 (by decide)) ?_
    refine mm_iconst (v := nI 0) rfl (by decide) ?_
    refine mm_isV5 (M2 := qH_edit) wd_240 qH_edit_k (by decide) (sH_ed1 (s := tk) (n := n) (m := m) hG rfl (by decide) (hT.fr rfl rfl rfl rfl) (by simp [mm_set]) htk2 hap hnt) rfl (by decide) (Nat.le_of_ble_eq_true rfl) (by decide) (by decide) rfl (by decide) ?_
    refine mm_pop rfl rfl ?_
    refine mm_aload_n rfl rfl ?_
    refine mm_iload_n rfl rfl ?_
    refine mm_putI rfl rfl rfl (by decide) rfl (Or.inl rfl) rfl rfl ?_
    refine mm_aload_n rfl rfl ?_
    refine mm_iload_n rfl rfl ?_
    refine mm_aload_n rfl rfl ?_
    refine mm_getR rfl rfl rfl (by decide) rfl (mm_gi hG 0 6 67 (by decide)) ?_
    refine mm_getI (x := nI tk) rfl rfl rfl (by decide) rfl (by simp [mm_set, ed_ed_o (show ¬ 67 = 2 ∧ ¬ 67 = 3 ∧ ¬ 67 = 4 ∧ ¬ (16 ≤ 67 ∧ 67 < 60) by decide)]) ?_
    refine mm_iaddN rfl ?_
    refine mm_isV1 (M2 := qE_moveTo) wd_301 qE_moveTo_k (by decide) (sE_moveTo hG) rfl (by decide) (Nat.le_of_ble_eq_true rfl) (by decide) (by decide) rfl (by decide) ?_
    refine mm_ireturn rfl rfl rfl (by decide) (by decide) ?_
    exact ⟨rfl, rfl, rfl, rfl⟩
  · exact absurd h34 (by decide)
set_option maxRecDepth 100000 in
set_option maxHeartbeats 400000 in
theorem sE_undo0 {E : mm_E} {G : mm_G} {J : mm_J} (hG : mm_GI G) {n m : Nat} (hT : ed_TI J n m) {u : Nat} (hu : (J 0 8 = nI 19 ∧ J 0 11 = nI (u + 1)) ∨ (¬ J 0 8 = nI 19 ∧ u = m)) (h : u = 0 ∨ u + 20 ≤ m) (hum : u ≤ m) : mm_Ret E qE_undo [.ref 0] 86 J G (some (.int (-2))) 86 J G := by
  refine mm_Met.of qE_undo_ok (by decide) (mm_cats rfl) (Nat.le_of_ble_eq_true rfl) ?_
  have hm2 := hT.2.2.2.2.2
  refine mm_aload_n rfl rfl ?_
  refine mm_getI rfl rfl rfl (by decide) rfl rfl ?_
  refine mm_bipush (v := nI 19) rfl (by decide) ?_
  refine mm_icmp_ne (tgt := 18) rfl (by decide) (fun h6 => ?_) (fun h6 => ?_)
  · obtain rfl : m = u := (hu.elim (fun q => absurd q.1 h6) (fun q => q.2)).symm
    refine mm_aload_n rfl rfl ?_
    refine mm_getR rfl rfl rfl (by decide) rfl (mm_gi hG 0 2 16 (by decide)) ?_
    refine mm_getI (x := nI m) rfl rfl rfl (by decide) rfl hT.2.2.2.2.1 ?_
    exact lE_undo0 hG hT h hum
  · have hun := hu.elim (fun q => q.2) (fun q => absurd h6 q.1)
    refine mm_aload_n rfl rfl ?_
    refine mm_getI (x := nI (u + 1)) rfl rfl rfl (by decide) rfl hun ?_
    refine mm_iconst (v := nI 1) rfl (by decide) ?_
    refine mm_isubN rfl (by omega) ?_
    refine mm_goto (tgt := 25) rfl (by decide) ?_
    rw [Nat.add_sub_cancel]
    exact lE_undo0 hG hT h hum
set_option maxRecDepth 100000 in
set_option maxHeartbeats 400000 in
theorem sE_undo1 {E : mm_E} {G : mm_G} {J : mm_J} (hG : mm_GI G) {n m : Nat} (hT : ed_TI J n m) {u a pu tk : Nat} (h1 : 1 ≤ u) (h2 : u ≤ m) (h3 : m < u + 20) (ha : J 17 (u % 20) = nI a) (hpu : J 18 (u % 20) = nI pu) (htk : J (20 + 2 * (u % 20)) 1 = nI tk) (htk2 : tk ≤ 100) (hap : a + pu ≤ n) (hnt : n - pu + tk ≤ 100) (hu : (J 0 8 = nI 19 ∧ J 0 11 = nI (u + 1)) ∨ (¬ J 0 8 = nI 19 ∧ u = m)) : mm_Ret E qE_undo [.ref 0] 86 J G (some (.int (nI 0))) 86 (mm_set (mm_set (ed_ed (mm_set (mm_cp (mm_set J 67 1 (nI 0)) (20 + 2 * (u % 20) + 1) (67 + 1) 0 0 tk) 67 1 (nI tk)) 67 n m a pu tk) 0 11 (nI u)) 1 3 (nI (a + tk))) G := by
  refine mm_Met.of qE_undo_ok (by decide) (mm_cats rfl) (Nat.le_of_ble_eq_true rfl) ?_
  have hm2 := hT.2.2.2.2.2
  refine mm_aload_n rfl rfl ?_
  refine mm_getI rfl rfl rfl (by decide) rfl rfl ?_
  refine mm_bipush (v := nI 19) rfl (by decide) ?_
  refine mm_icmp_ne (tgt := 18) rfl (by decide) (fun h6 => ?_) (fun h6 => ?_)
  · obtain rfl : m = u := (hu.elim (fun q => absurd q.1 h6) (fun q => q.2)).symm
    refine mm_aload_n rfl rfl ?_
    refine mm_getR rfl rfl rfl (by decide) rfl (mm_gi hG 0 2 16 (by decide)) ?_
    refine mm_getI (x := nI m) rfl rfl rfl (by decide) rfl hT.2.2.2.2.1 ?_
    exact lE_undo1 hG hT h1 h2 h3 ha hpu htk htk2 hap hnt
  · have hun := hu.elim (fun q => q.2) (fun q => absurd h6 q.1)
    refine mm_aload_n rfl rfl ?_
    refine mm_getI (x := nI (u + 1)) rfl rfl rfl (by decide) rfl hun ?_
    refine mm_iconst (v := nI 1) rfl (by decide) ?_
    refine mm_isubN rfl (by omega) ?_
    refine mm_goto (tgt := 25) rfl (by decide) ?_
    rw [Nat.add_sub_cancel]
    exact lE_undo1 hG hT h1 h2 h3 ha hpu htk htk2 hap hnt
/-- the first place from p on, among k, where g of length l stands in f -/
def ed_sr (f g : Nat → Int32) (l : Nat) : Nat → Nat → Option Nat
  | 0, _ => none
  | k + 1, p => if ed_at f g p l = true then some p else ed_sr f g l k (p + 1)
def ed_srJ (J : mm_J) (l : Nat) : Option Nat → mm_J
  | none => J
  | some q => mm_set J 1 3 (nI (q + l))
def ed_srR : Option Nat → Int32
  | none => -2
  | some _ => nI 0
set_option maxRecDepth 100000 in
set_option maxHeartbeats 400000 in
theorem lE_search {E : mm_E} {G : mm_G} {J : mm_J} (hG : mm_GI G) {n l r : Nat} (hn : J 2 1 = nI n) (hn2 : n ≤ 100) (hr : mm_SH r = .inl 2) (hl : J r 1 = nI l) (hl2 : l ≤ 100) : ∀ (k p : Nat), n + 1 - (p + l) = k → p ≤ 101 → mm_Go E qE_search 31 [some (.ref 0), some (.ref r), some (.int (nI p))] [] 86 J G 0 0 (mm_Fm E qE_search (mm_is (some (.int (ed_srR (ed_sr (J 3) (J (r + 1)) l k p)))) 86 (ed_srJ J l (ed_sr (J 3) (J (r + 1)) l k p)) G))
  | 0, p, hk, hp => by
    refine mm_iload_n rfl rfl ?_
    refine mm_aload_n rfl rfl ?_
    refine mm_getI (x := nI l) rfl rfl hr (mm_l1 hr) rfl hl ?_
    refine mm_iaddN rfl ?_
    refine mm_aload_n rfl rfl ?_
    refine mm_getR rfl rfl rfl (by decide) rfl (mm_gi hG 0 0 1 (by decide)) ?_
    refine mm_getR rfl rfl rfl (by decide) rfl (mm_gi hG 1 0 2 (by decide)) ?_
    refine mm_getI (x := nI n) rfl rfl rfl (by decide) rfl hn ?_
    refine mm_icmp_gtN (tgt := 82) rfl (by decide) (by omega) (by omega) (fun h47 => ?_) (fun h47 => ?_)
    · refine mm_bipush (v := -2) rfl (by decide) ?_
      refine mm_ireturn rfl rfl rfl (by decide) (by decide) ?_
      exact ⟨rfl, rfl, rfl, rfl⟩
    · exact absurd h47 (by omega)
  | k + 1, p, hk, hp => by
    refine mm_iload_n rfl rfl ?_
    refine mm_aload_n rfl rfl ?_
    refine mm_getI (x := nI l) rfl rfl hr (mm_l1 hr) rfl hl ?_
    refine mm_iaddN rfl ?_
    refine mm_aload_n rfl rfl ?_
    refine mm_getR rfl rfl rfl (by decide) rfl (mm_gi hG 0 0 1 (by decide)) ?_
    refine mm_getR rfl rfl rfl (by decide) rfl (mm_gi hG 1 0 2 (by decide)) ?_
    refine mm_getI (x := nI n) rfl rfl rfl (by decide) rfl hn ?_
    refine mm_icmp_gtN (tgt := 82) rfl (by decide) (by omega) (by omega) (fun h47 => ?_) (fun h47 => ?_)
    · exact absurd h47 (by omega)
    · refine mm_aload_n rfl rfl ?_
      refine mm_getR rfl rfl rfl (by decide) rfl (mm_gi hG 0 0 1 (by decide)) ?_
      refine mm_getR rfl rfl rfl (by decide) rfl (mm_gi hG 1 0 2 (by decide)) ?_
      refine mm_aload_n rfl rfl ?_
      refine mm_iload_n rfl rfl ?_
      refine mm_isV2 (M2 := qL_has) wd_408 qL_has_k (by decide) (sL_has hG hr hn hn2 hl hl2 (by omega)) rfl (by decide) (Nat.le_of_ble_eq_true rfl) (by decide) (by decide) rfl (by decide) ?_
      refine mm_if_eqN (tgt := 76) rfl (by decide) (ed_b31 _) (fun h62 => ?_) (fun h62 => ?_)
      · rw [show ed_sr (J 3) (J (r + 1)) l (k + 1) p = ed_sr (J 3) (J (r + 1)) l k (p + 1) from by rw [ed_sr, if_neg (by rw [ed_beq h62]; decide)]]
        refine mm_iincN rfl rfl (mm_inc1 _) (by decide) ?_
        refine mm_goto (tgt := 31) rfl (by decide) ?_
        exact lE_search hG hn hn2 hr hl hl2 k (p + 1) (by omega) (by omega)
      · rw [show ed_sr (J 3) (J (r + 1)) l (k + 1) p = some p from by rw [ed_sr, if_pos (ed_bne h62)]]
        refine mm_aload_n rfl rfl ?_
        refine mm_iload_n rfl rfl ?_
        refine mm_aload_n rfl rfl ?_
        refine mm_getI (x := nI l) rfl rfl hr (mm_l1 hr) rfl hl ?_
        refine mm_iaddN rfl ?_
        refine mm_isV1 (M2 := qE_moveTo) wd_301 qE_moveTo_k (by decide) (sE_moveTo hG) rfl (by decide) (Nat.le_of_ble_eq_true rfl) (by decide) (by decide) rfl (by decide) ?_
        refine mm_ireturn rfl rfl rfl (by decide) (by decide) ?_
        exact ⟨rfl, rfl, rfl, rfl⟩
set_option maxRecDepth 100000 in
set_option maxHeartbeats 400000 in
theorem sE_search0 {E : mm_E} {G : mm_G} {J : mm_J} (hG : mm_GI G) (hc : J 6 1 = nI 0) : mm_Ret E qE_search [.ref 0] 86 J G (some (.int (-2))) 86 J G := by
  refine mm_Met.of qE_search_ok (by decide) (mm_cats rfl) (Nat.le_of_ble_eq_true rfl) ?_
  refine mm_aload_n rfl rfl ?_
  refine mm_getR rfl rfl rfl (by decide) rfl (mm_gi hG 0 1 6 (by decide)) ?_
  refine mm_getI (x := nI 0) rfl rfl rfl (by decide) rfl hc ?_
  refine mm_if_neN (tgt := 13) rfl (by decide) (by decide) (fun h7 => ?_) (fun h7 => ?_)
  · exact absurd rfl h7
  · refine mm_bipush (v := -2) rfl (by decide) ?_
    refine mm_ireturn rfl rfl rfl (by decide) (by decide) ?_
    exact ⟨rfl, rfl, rfl, rfl⟩
set_option maxRecDepth 100000 in
set_option maxHeartbeats 400000 in
theorem sE_search1 {E : mm_E} {G : mm_G} {J : mm_J} (hG : mm_GI G) {n l r : Nat} (hn : J 2 1 = nI n) (hn2 : n ≤ 100) (hr : mm_SH r = .inl 2) (hl : J r 1 = nI l) (hl2 : l ≤ 100) {c q : Nat} (hc : J 6 1 = nI c) (hc1 : 0 < c) (hc2 : c ≤ 4) (hg : G 7 0 = some r) (hp : J 1 3 = nI q) (hq : q ≤ n) : mm_Ret E qE_search [.ref 0] 86 J G (some (.int (ed_srR (ed_sr (J 3) (J (r + 1)) l (n + 1 - (q + l)) q)))) 86 (ed_srJ J l (ed_sr (J 3) (J (r + 1)) l (n + 1 - (q + l)) q)) G := by
  refine mm_Met.of qE_search_ok (by decide) (mm_cats rfl) (Nat.le_of_ble_eq_true rfl) ?_
  refine mm_aload_n rfl rfl ?_
  refine mm_getR rfl rfl rfl (by decide) rfl (mm_gi hG 0 1 6 (by decide)) ?_
  refine mm_getI (x := nI c) rfl rfl rfl (by decide) rfl hc ?_
  refine mm_if_neN (tgt := 13) rfl (by decide) (by omega) (fun h7 => ?_) (fun h7 => ?_)
  · refine mm_aload_n rfl rfl ?_
    refine mm_getR rfl rfl rfl (by decide) rfl (mm_gi hG 0 1 6 (by decide)) ?_
    refine mm_getR rfl rfl rfl (by decide) rfl (mm_gi hG 6 0 7 (by decide)) ?_
    refine mm_iconst (v := nI 0) rfl (by decide) ?_
    refine mm_rrN rfl (by decide) rfl rfl (by decide) (by decide) (by decide) hg rfl ?_
    refine mm_astore_n rfl (by decide) ?_
    refine mm_aload_n rfl rfl ?_
    refine mm_getR rfl rfl rfl (by decide) rfl (mm_gi hG 0 0 1 (by decide)) ?_
    refine mm_getI (x := nI q) rfl rfl rfl (by decide) rfl hp ?_
    refine mm_istore_n rfl (by decide) ?_
    exact lE_search hG hn hn2 hr hl hl2 _ q rfl (by omega)
  · exact absurd h7 (by omega)
set_option maxRecDepth 100000 in
set_option maxHeartbeats 400000 in
theorem sE_moveToGoal1 {E : mm_E} {G : mm_G} {J : mm_J} (hG : mm_GI G) {n q b : Nat} (hn : J 2 1 = nI n) (hn2 : n ≤ 100) (hp : J 1 3 = nI q) (hq : q ≤ n) (hb : b ≤ n) (h : ¬ J 0 8 = nI 2 ∧ ¬ J 0 8 = nI 3) : mm_Ret E qE_moveToGoal [.ref 0, .int (nI b)] 86 J G (some (.int (nI 0))) 86 (mm_set (mm_set J 0 9 (nI (q - ed_lb (J 3) q))) 1 3 (nI (min (b + (q - ed_lb (J 3) q)) (ed_le (J 3) n b)))) G := by
  refine mm_Met.of qE_moveToGoal_ok (by decide) (mm_cats rfl) (Nat.le_of_ble_eq_true rfl) ?_
  have hlb := ed_lb_le (f := J 3) (p := q)
  have hle := ed_le_le (f := J 3) hb
  refine mm_aload_n rfl rfl ?_
  refine mm_getI rfl rfl rfl (by decide) rfl rfl ?_
  refine mm_iconst (v := nI 2) rfl (by decide) ?_
  refine mm_icmp_eq (tgt := 42) rfl (by decide) (fun h5 => ?_) (fun h5 => ?_)
  · exact absurd h5 h.1
  · refine mm_aload_n rfl rfl ?_
    refine mm_getI rfl rfl rfl (by decide) rfl rfl ?_
    refine mm_iconst (v := nI 3) rfl (by decide) ?_
    refine mm_icmp_eq (tgt := 42) rfl (by decide) (fun h13 => ?_) (fun h13 => ?_)
    · exact absurd h13 h.2
    · refine mm_aload_n rfl rfl ?_
      refine mm_aload_n rfl rfl ?_
      refine mm_getR rfl rfl rfl (by decide) rfl (mm_gi hG 0 0 1 (by decide)) ?_
      refine mm_getI (x := nI q) rfl rfl rfl (by decide) rfl hp ?_
      refine mm_aload_n rfl rfl ?_
      refine mm_getR rfl rfl rfl (by decide) rfl (mm_gi hG 0 0 1 (by decide)) ?_
      refine mm_aload_n rfl rfl ?_
      refine mm_getR rfl rfl rfl (by decide) rfl (mm_gi hG 0 0 1 (by decide)) ?_
      refine mm_getI (x := nI q) rfl rfl rfl (by decide) rfl hp ?_
      refine mm_isV1 (M2 := qT_lineBeginning) wd_324 qT_lineBeginning_k (by decide) (sT_lineBeginning hG (by omega)) rfl (by decide) (Nat.le_of_ble_eq_true rfl) (by decide) (by decide) rfl (by decide) ?_
      refine mm_isubN rfl (by omega) ?_
      refine mm_putI rfl rfl rfl (by decide) rfl (Or.inl rfl) rfl rfl ?_
      refine mm_aload_n rfl rfl ?_
      refine mm_iload_n rfl rfl ?_
      refine mm_aload_n rfl rfl ?_
      refine mm_getI (x := nI (q - ed_lb (J 3) q)) rfl rfl rfl (by decide) rfl (by simp [mm_set]) ?_
      refine mm_iaddN rfl ?_
      refine mm_aload_n rfl rfl ?_
      refine mm_getR rfl rfl rfl (by decide) rfl (mm_gi hG 0 0 1 (by decide)) ?_
      refine mm_iload_n rfl rfl ?_
      refine mm_isV1 (M2 := qT_lineEnd) wd_325 qT_lineEnd_k (by decide) (sT_lineEnd (n := n) hG (by simp [mm_set, hn]) hn2 hb) rfl (by decide) (Nat.le_of_ble_eq_true rfl) (by decide) (by decide) rfl (by decide) ?_
      rw [show mm_set J 0 9 (nI (q - ed_lb (J 3) q)) 3 = J 3 from rfl]
      refine mm_minN (by omega) (by omega) rfl wd_298 wd_299 wd_10 wd_300 (by decide) (Nat.le_of_ble_eq_true rfl) (by decide) (by decide) ?_
      refine mm_isV1 (M2 := qE_moveTo) wd_301 qE_moveTo_k (by decide) (sE_moveTo hG) rfl (by decide) (Nat.le_of_ble_eq_true rfl) (by decide) (by decide) rfl (by decide) ?_
      refine mm_ireturn rfl rfl rfl (by decide) (by decide) ?_
      exact ⟨rfl, rfl, rfl, rfl⟩
set_option maxRecDepth 100000 in
set_option maxHeartbeats 400000 in
theorem sE_moveToGoal2 {E : mm_E} {G : mm_G} {J : mm_J} (hG : mm_GI G) {n q b : Nat} (hn : J 2 1 = nI n) (hn2 : n ≤ 100) (hp : J 1 3 = nI q) (hq : q ≤ n) (hb : b ≤ n) (h : J 0 8 = nI 2 ∨ J 0 8 = nI 3) {g : Nat} (hg : J 0 9 = nI g) (hg2 : g ≤ 100) : mm_Ret E qE_moveToGoal [.ref 0, .int (nI b)] 86 J G (some (.int (nI 0))) 86 (mm_set J 1 3 (nI (min (b + g) (ed_le (J 3) n b)))) G := by
  refine mm_Met.of qE_moveToGoal_ok (by decide) (mm_cats rfl) (Nat.le_of_ble_eq_true rfl) ?_
  have hle := ed_le_le (f := J 3) hb
  refine mm_aload_n rfl rfl ?_
  refine mm_getI rfl rfl rfl (by decide) rfl rfl ?_
  refine mm_iconst (v := nI 2) rfl (by decide) ?_
  refine mm_icmp_eq (tgt := 42) rfl (by decide) (fun h5 => ?_) (fun h5 => ?_)
  · refine mm_aload_n rfl rfl ?_
    refine mm_iload_n rfl rfl ?_
    refine mm_aload_n rfl rfl ?_
    refine mm_getI (x := nI g) rfl rfl rfl (by decide) rfl hg ?_
    refine mm_iaddN rfl ?_
    refine mm_aload_n rfl rfl ?_
    refine mm_getR rfl rfl rfl (by decide) rfl (mm_gi hG 0 0 1 (by decide)) ?_
    refine mm_iload_n rfl rfl ?_
    refine mm_isV1 (M2 := qT_lineEnd) wd_325 qT_lineEnd_k (by decide) (sT_lineEnd (n := n) hG hn hn2 hb) rfl (by decide) (Nat.le_of_ble_eq_true rfl) (by decide) (by decide) rfl (by decide) ?_
    refine mm_minN (by omega) (by omega) rfl wd_298 wd_299 wd_10 wd_300 (by decide) (Nat.le_of_ble_eq_true rfl) (by decide) (by decide) ?_
    refine mm_isV1 (M2 := qE_moveTo) wd_301 qE_moveTo_k (by decide) (sE_moveTo hG) rfl (by decide) (Nat.le_of_ble_eq_true rfl) (by decide) (by decide) rfl (by decide) ?_
    refine mm_ireturn rfl rfl rfl (by decide) (by decide) ?_
    exact ⟨rfl, rfl, rfl, rfl⟩
  · refine mm_aload_n rfl rfl ?_
    refine mm_getI rfl rfl rfl (by decide) rfl rfl ?_
    refine mm_iconst (v := nI 3) rfl (by decide) ?_
    refine mm_icmp_eq (tgt := 42) rfl (by decide) (fun h13 => ?_) (fun h13 => ?_)
    · refine mm_aload_n rfl rfl ?_
      refine mm_iload_n rfl rfl ?_
      refine mm_aload_n rfl rfl ?_
      refine mm_getI (x := nI g) rfl rfl rfl (by decide) rfl hg ?_
      refine mm_iaddN rfl ?_
      refine mm_aload_n rfl rfl ?_
      refine mm_getR rfl rfl rfl (by decide) rfl (mm_gi hG 0 0 1 (by decide)) ?_
      refine mm_iload_n rfl rfl ?_
      refine mm_isV1 (M2 := qT_lineEnd) wd_325 qT_lineEnd_k (by decide) (sT_lineEnd (n := n) hG hn hn2 hb) rfl (by decide) (Nat.le_of_ble_eq_true rfl) (by decide) (by decide) rfl (by decide) ?_
      refine mm_minN (by omega) (by omega) rfl wd_298 wd_299 wd_10 wd_300 (by decide) (Nat.le_of_ble_eq_true rfl) (by decide) (by decide) ?_
      refine mm_isV1 (M2 := qE_moveTo) wd_301 qE_moveTo_k (by decide) (sE_moveTo hG) rfl (by decide) (Nat.le_of_ble_eq_true rfl) (by decide) (by decide) rfl (by decide) ?_
      refine mm_ireturn rfl rfl rfl (by decide) (by decide) ?_
      exact ⟨rfl, rfl, rfl, rfl⟩
    · exact absurd h (fun q => q.elim h5 h13)
end
section
/-- the bindings: codes and commands -/
def ed_L (J : mm_J) (c : Nat) : List (Int32 × Int32) := (List.range c).map (fun i => (J 61 i, J 62 i))
theorem ed_L_s (J : mm_J) (c : Nat) : ed_L J (c + 1) = ed_L J c ++ [(J 61 c, J 62 c)] := by
  unfold ed_L
  rw [List.range_succ, List.map_append]
  rfl
theorem ed_L_c {J J' : mm_J} {c : Nat} (h : ∀ i, i < c → J' 61 i = J 61 i ∧ J' 62 i = J 62 i) : ed_L J' c = ed_L J c := by
  unfold ed_L
  refine List.map_congr_left (fun i hi => ?_)
  have := h i (List.mem_range.mp hi)
  rw [this.1, this.2]
theorem ed_L_l (J : mm_J) (c : Nat) : (ed_L J c).length = c := by simp [ed_L]
def ed_kp (a b : Nat) (q : Int32 × Int32) : Bool := decide (q.1 < nI a ∨ ¬ q.1 < nI b)
def ed_any (J : mm_J) (row c : Nat) : Prop := ∃ j v, j < c ∧ J 61 j = nI v ∧ ed_lg v row = true
/-- what drop leaves -/
def ed_DP (J : mm_J) (G : mm_G) (c a b : Nat) : mm_T := fun r n J' G' => G' = G ∧ r = none ∧ n = 86 ∧ (∃ c', c' ≤ c ∧ J' 60 2 = nI c' ∧ ed_L J' c' = (ed_L J c).filter (ed_kp a b)) ∧ J' 60 3 = J 60 3 ∧ (∀ i, ¬ i = 60 → ¬ i = 61 → ¬ i = 62 → J' i = J i)
set_option maxRecDepth 100000 in
set_option maxHeartbeats 400000 in
theorem lY_drop {E : mm_E} {G : mm_G} (hG : mm_GI G) {c a b : Nat} {J0 : mm_J} (hc2 : c ≤ 24) : ∀ (n k i : Nat) {J : mm_J}, c - i = n → i ≤ c → (hc : J 60 2 = nI c) → k ≤ i → (∀ j, i ≤ j → J 61 j = J0 61 j ∧ J 62 j = J0 62 j) → ed_L J k = (ed_L J0 i).filter (ed_kp a b) → J 60 3 = J0 60 3 → (∀ z, ¬ z = 60 → ¬ z = 61 → ¬ z = 62 → J z = J0 z) → mm_Go E qY_drop 5 [some (.ref 60), some (.int (nI a)), some (.int (nI b)), some (.int (nI k)), some (.int (nI i))] [] 86 J G 0 0 (mm_Fm E qY_drop (ed_DP J0 G c a b))
  | 0, k, i, J, hn, hi, hc, hki, hun, hL, hp3, hfr => by
    refine mm_iload rfl rfl ?_
    refine mm_aload_n rfl rfl ?_
    refine mm_getI (x := nI c) rfl rfl rfl (by decide) rfl hc ?_
    refine mm_icmp_geN (tgt := 71) rfl (by decide) (by omega) (by omega) (fun h11 => ?_) (fun h11 => ?_)
    · refine mm_aload_n rfl rfl ?_
      refine mm_iload_n rfl rfl ?_
      refine mm_putI rfl rfl rfl (by decide) rfl (Or.inl rfl) rfl rfl ?_
      refine mm_return rfl rfl (by decide) (by decide) ?_
      obtain rfl : c = i := by omega
      exact ⟨rfl, rfl, rfl, ⟨k, hki, by simp [mm_set], by rw [← hL]; exact ed_L_c (fun j _ => by simp [mm_set])⟩, by simp [mm_set, hp3], fun z h1 h2 h3 => by funext j; simp [mm_set, h1, hfr z h1 h2 h3]⟩
    · exact absurd h11 (by omega)
  | n + 1, k, i, J, hn, hi, hc, hki, hun, hL, hp3, hfr => by
    refine mm_iload rfl rfl ?_
    refine mm_aload_n rfl rfl ?_
    refine mm_getI (x := nI c) rfl rfl rfl (by decide) rfl hc ?_
    refine mm_icmp_geN (tgt := 71) rfl (by decide) (by omega) (by omega) (fun h11 => ?_) (fun h11 => ?_)
    · exact absurd h11 (by omega)
    · refine mm_aload_n rfl rfl ?_
      refine mm_getR rfl rfl rfl (by decide) rfl (mm_gi hG 60 0 61 (by decide)) ?_
      refine mm_iload rfl rfl ?_
      refine mm_rdN rfl (by decide) rfl (by decide) (by omega) (by decide) rfl rfl ?_
      refine mm_iload_n rfl rfl ?_
      refine mm_icmp_lt (tgt := 36) rfl (by decide) (fun h22 => ?_) (fun h22 => ?_)
      · refine mm_aload_n rfl rfl ?_
        refine mm_getR rfl rfl rfl (by decide) rfl (mm_gi hG 60 0 61 (by decide)) ?_
        refine mm_iload_n rfl rfl ?_
        refine mm_aload_n rfl rfl ?_
        refine mm_getR rfl rfl rfl (by decide) rfl (mm_gi hG 60 0 61 (by decide)) ?_
        refine mm_iload rfl rfl ?_
        refine mm_rdN (x := J 61 i) rfl (by decide) rfl (by decide) (by omega) (by decide) rfl rfl ?_
        refine mm_wrN rfl (by decide) rfl (by decide) (by omega) (by decide) rfl ?_
        refine mm_aload_n rfl rfl ?_
        refine mm_getR rfl rfl rfl (by decide) rfl (mm_gi hG 60 1 62 (by decide)) ?_
        refine mm_iload_n rfl rfl ?_
        refine mm_aload_n rfl rfl ?_
        refine mm_getR rfl rfl rfl (by decide) rfl (mm_gi hG 60 1 62 (by decide)) ?_
        refine mm_iload rfl rfl ?_
        refine mm_rdN (x := J 62 i) rfl (by decide) rfl (by decide) (by omega) (by decide) rfl (by simp [mm_set]) ?_
        refine mm_wrN rfl (by decide) rfl (by decide) (by omega) (by decide) rfl ?_
        refine mm_iincN rfl rfl (mm_inc1 _) (by decide) ?_
        refine mm_iincN rfl rfl (mm_inc1 _) (by decide) ?_
        refine mm_goto (tgt := 5) rfl (by decide) ?_
        refine lY_drop (J := mm_set (mm_set J 61 k (J 61 i)) 62 k (J 62 i)) hG hc2 n (k + 1) (i + 1) (by omega) (by omega) (by simp [mm_set, hc]) (by omega) (fun j hj => ?_) ?_ (by simp [mm_set, hp3]) (fun z h1 h2 h3 => by funext j; simp [mm_set, h2, h3, hfr z h1 h2 h3])
        · have := hun j (by omega)
          simp [mm_set, show ¬ j = k by omega, this.1, this.2]
        · have h1 := hun i (Nat.le_refl i)
          rw [ed_L_s, ed_L_s, List.filter_append, ← hL, ed_L_c (J := J) (fun j hj => by simp [mm_set, show ¬ j = k by omega]), List.filter_cons_of_pos (by simp only [ed_kp, decide_eq_true_eq]; rw [← h1.1]; first | exact Or.inl h22 | exact Or.inr h33)]
          simp [mm_set, h1.1, h1.2]
      · refine mm_aload_n rfl rfl ?_
        refine mm_getR rfl rfl rfl (by decide) rfl (mm_gi hG 60 0 61 (by decide)) ?_
        refine mm_iload rfl rfl ?_
        refine mm_rdN rfl (by decide) rfl (by decide) (by omega) (by decide) rfl rfl ?_
        refine mm_iload_n rfl rfl ?_
        refine mm_icmp_lt (tgt := 65) rfl (by decide) (fun h33 => ?_) (fun h33 => ?_)
        · refine mm_iincN rfl rfl (mm_inc1 _) (by decide) ?_
          refine mm_goto (tgt := 5) rfl (by decide) ?_
          refine lY_drop hG hc2 n k (i + 1) (by omega) (by omega) hc (by omega) (fun j hj => hun j (by omega)) ?_ hp3 hfr
          have h1 := hun i (Nat.le_refl i)
          rw [ed_L_s, List.filter_append, ← hL, List.filter_cons_of_neg (by simp only [ed_kp, decide_eq_true_eq]; rw [← h1.1]; exact fun q => q.elim h22 (fun q => q h33))]
          simp
        · refine mm_aload_n rfl rfl ?_
          refine mm_getR rfl rfl rfl (by decide) rfl (mm_gi hG 60 0 61 (by decide)) ?_
          refine mm_iload_n rfl rfl ?_
          refine mm_aload_n rfl rfl ?_
          refine mm_getR rfl rfl rfl (by decide) rfl (mm_gi hG 60 0 61 (by decide)) ?_
          refine mm_iload rfl rfl ?_
          refine mm_rdN (x := J 61 i) rfl (by decide) rfl (by decide) (by omega) (by decide) rfl rfl ?_
          refine mm_wrN rfl (by decide) rfl (by decide) (by omega) (by decide) rfl ?_
          refine mm_aload_n rfl rfl ?_
          refine mm_getR rfl rfl rfl (by decide) rfl (mm_gi hG 60 1 62 (by decide)) ?_
          refine mm_iload_n rfl rfl ?_
          refine mm_aload_n rfl rfl ?_
          refine mm_getR rfl rfl rfl (by decide) rfl (mm_gi hG 60 1 62 (by decide)) ?_
          refine mm_iload rfl rfl ?_
          refine mm_rdN (x := J 62 i) rfl (by decide) rfl (by decide) (by omega) (by decide) rfl (by simp [mm_set]) ?_
          refine mm_wrN rfl (by decide) rfl (by decide) (by omega) (by decide) rfl ?_
          refine mm_iincN rfl rfl (mm_inc1 _) (by decide) ?_
          refine mm_iincN rfl rfl (mm_inc1 _) (by decide) ?_
          refine mm_goto (tgt := 5) rfl (by decide) ?_
          refine lY_drop (J := mm_set (mm_set J 61 k (J 61 i)) 62 k (J 62 i)) hG hc2 n (k + 1) (i + 1) (by omega) (by omega) (by simp [mm_set, hc]) (by omega) (fun j hj => ?_) ?_ (by simp [mm_set, hp3]) (fun z h1 h2 h3 => by funext j; simp [mm_set, h2, h3, hfr z h1 h2 h3])
          · have := hun j (by omega)
            simp [mm_set, show ¬ j = k by omega, this.1, this.2]
          · have h1 := hun i (Nat.le_refl i)
            rw [ed_L_s, ed_L_s, List.filter_append, ← hL, ed_L_c (J := J) (fun j hj => by simp [mm_set, show ¬ j = k by omega]), List.filter_cons_of_pos (by simp only [ed_kp, decide_eq_true_eq]; rw [← h1.1]; first | exact Or.inl h22 | exact Or.inr h33)]
            simp [mm_set, h1.1, h1.2]
set_option maxRecDepth 100000 in
set_option maxHeartbeats 400000 in
theorem sY_drop {E : mm_E} {G : mm_G} {J : mm_J} (hG : mm_GI G) {c a b : Nat} (hc : J 60 2 = nI c) (hc2 : c ≤ 24) : mm_Met E qY_drop [.ref 60, .int (nI a), .int (nI b)] 86 J G (ed_DP J G c a b) := by
  refine mm_Met.of qY_drop_ok (by decide) (mm_cats rfl) (Nat.le_of_ble_eq_true rfl) ?_
  refine mm_iconst (v := nI 0) rfl (by decide) ?_
  refine mm_istore_n rfl (by decide) ?_
  refine mm_iconst (v := nI 0) rfl (by decide) ?_
  refine mm_istore rfl (by decide) ?_
  exact lY_drop (J0 := J) hG hc2 c 0 0 rfl (by omega) hc (by omega) (fun _ _ => ⟨rfl, rfl⟩) rfl rfl (fun _ _ _ _ => rfl)
def ed_row (pd key : Nat) : Nat := pd + (key + 1) * (ed_sp pd / 17)
def ed_skV (bd : Nat → Nat) (row c : Nat) : Nat → Nat → Nat
  | 0, v => v
  | n + 1, v => ed_skV bd row c n (if ed_lg (bd (c - (n + 1))) row = true then row else v)
set_option maxRecDepth 100000 in
set_option maxHeartbeats 400000 in
theorem lY_strokeN {E : mm_E} {G : mm_G} {J : mm_J} (hG : mm_GI G) {c key row : Nat} {bd : Nat → Nat} (hc : J 60 2 = nI c) (hc2 : c ≤ 24) (hb : ∀ i, i < c → J 61 i = nI (bd i) ∧ bd i < 5000) (hrow : row < 6000) : ∀ (n i v : Nat), c - i = n → i ≤ c → (∀ j, i ≤ j → j < c → ¬ bd j = row) → (v = 0 ∨ v = row) → mm_Go E qY_stroke 27 [some (.ref 60), some (.int (nI key)), some (.int (nI row)), some (.int (nI i))] [] 86 (mm_set J 60 3 (nI v)) G 0 0 (mm_Fm E qY_stroke (mm_is (some (.int (if ed_skV bd row c n v = 0 then -4 else nI 1000))) 86 (mm_set J 60 3 (nI (ed_skV bd row c n v))) G))
  | 0, i, v, hn, hi, hne, hv => by
    have hvb : v < 2 ^ 31 := by omega
    refine mm_iload_n rfl rfl ?_
    refine mm_aload_n rfl rfl ?_
    refine mm_getI (x := nI c) rfl rfl rfl (by decide) rfl (by simp [mm_set, hc]) ?_
    refine mm_icmp_geN (tgt := 76) rfl (by decide) (by omega) (by omega) (fun h32 => ?_) (fun h32 => ?_)
    · refine mm_aload_n rfl rfl ?_
      refine mm_getI (x := nI v) rfl rfl rfl (by decide) rfl (by simp [mm_set]) ?_
      refine mm_if_neN (tgt := 88) rfl (by decide) (by omega) (fun h80 => ?_) (fun h80 => ?_)
      · refine mm_sipush (v := nI 1000) rfl (by decide) ?_
        refine mm_ireturn rfl rfl rfl (by decide) (by decide) ?_
        exact ⟨by rw [show ed_skV bd row c 0 v = v from rfl, if_neg h80], rfl, rfl, rfl⟩
      · refine mm_bipush (v := -4) rfl (by decide) ?_
        refine mm_goto (tgt := 91) rfl (by decide) ?_
        refine mm_ireturn rfl rfl rfl (by decide) (by decide) ?_
        exact ⟨by rw [show ed_skV bd row c 0 v = v from rfl, if_pos h80], rfl, rfl, rfl⟩
    · exact absurd h32 (by omega)
  | n + 1, i, v, hn, hi, hne, hv => by
    have hbi := hb i (by omega)
    refine mm_iload_n rfl rfl ?_
    refine mm_aload_n rfl rfl ?_
    refine mm_getI (x := nI c) rfl rfl rfl (by decide) rfl (by simp [mm_set, hc]) ?_
    refine mm_icmp_geN (tgt := 76) rfl (by decide) (by omega) (by omega) (fun h32 => ?_) (fun h32 => ?_)
    · exact absurd h32 (by omega)
    · refine mm_aload_n rfl rfl ?_
      refine mm_getR rfl rfl rfl (by decide) rfl (mm_gi hG 60 0 61 (by decide)) ?_
      refine mm_iload_n rfl rfl ?_
      refine mm_rdN (x := nI (bd i)) rfl (by decide) rfl (by decide) (by omega) (by decide) rfl (by simp [mm_set, (hb i (by omega)).1]) ?_
      refine mm_iload_n rfl rfl ?_
      refine mm_icmp_neN (tgt := 52) rfl (by decide) (by omega) (by omega) (fun h42 => ?_) (fun h42 => ?_)
      · refine mm_aload_n rfl rfl ?_
        refine mm_getR rfl rfl rfl (by decide) rfl (mm_gi hG 60 0 61 (by decide)) ?_
        refine mm_iload_n rfl rfl ?_
        refine mm_rdN (x := nI (bd i)) rfl (by decide) rfl (by decide) (by omega) (by decide) rfl (by simp [mm_set, (hb i (by omega)).1]) ?_
        refine mm_iload_n rfl rfl ?_
        refine mm_isS2 (M2 := qY_isLonger) wd_287 qY_isLonger_k (by decide) (sY_isLonger (by omega) (by omega)) (Nat.le_of_ble_eq_true rfl) (by decide) (by decide) rfl (by decide) ?_
        refine mm_if_eqN (tgt := 70) rfl (by decide) (ed_b31 _) (fun h62 => ?_) (fun h62 => ?_)
        · refine mm_iincN rfl rfl (mm_inc1 _) (by decide) ?_
          refine mm_goto (tgt := 27) rfl (by decide) ?_
          rw [show ed_skV bd row c (n + 1) v = ed_skV bd row c n v from by rw [ed_skV, show c - (n + 1) = i by omega, if_neg (by rw [ed_beq h62]; decide)]]
          exact lY_strokeN hG hc hc2 hb hrow n (i + 1) v (by omega) (by omega) (fun j h1 h2 => hne j (by omega) h2) hv
        · refine mm_aload_n rfl rfl ?_
          refine mm_iload_n rfl rfl ?_
          refine mm_putI rfl rfl rfl (by decide) rfl (Or.inl rfl) rfl rfl ?_
          refine mm_iincN rfl rfl (mm_inc1 _) (by decide) ?_
          refine mm_goto (tgt := 27) rfl (by decide) ?_
          rw [mm_set_set]
          rw [show ed_skV bd row c (n + 1) v = ed_skV bd row c n row from by rw [ed_skV, show c - (n + 1) = i by omega, if_pos (ed_bne h62)]]
          exact lY_strokeN hG hc hc2 hb hrow n (i + 1) row (by omega) (by omega) (fun j h1 h2 => hne j (by omega) h2) (Or.inr rfl)
      · exact absurd h42 (hne i (by omega) h32)
set_option maxRecDepth 100000 in
set_option maxHeartbeats 400000 in
theorem lY_strokeE {E : mm_E} {G : mm_G} {J : mm_J} (hG : mm_GI G) {c key row : Nat} {bd : Nat → Nat} (hc : J 60 2 = nI c) (hc2 : c ≤ 24) (hb : ∀ i, i < c → J 61 i = nI (bd i) ∧ bd i < 5000) (hrow : row < 6000) {i0 : Nat} (h0 : i0 < c) (he : bd i0 = row) (hf : ∀ j, j < i0 → ¬ bd j = row) (hl : ∀ j, j < c → ed_lg (bd j) row = false) : ∀ (n i : Nat), i0 - i = n → i ≤ i0 → mm_Go E qY_stroke 27 [some (.ref 60), some (.int (nI key)), some (.int (nI row)), some (.int (nI i))] [] 86 (mm_set J 60 3 (nI 0)) G 0 0 (mm_Fm E qY_stroke (mm_is (some (.int (J 62 i0))) 86 (mm_set J 60 3 (nI 0)) G))
  | 0, i, hn, hi => by
    have hbi := hb i (by omega)
    refine mm_iload_n rfl rfl ?_
    refine mm_aload_n rfl rfl ?_
    refine mm_getI (x := nI c) rfl rfl rfl (by decide) rfl (by simp [mm_set, hc]) ?_
    refine mm_icmp_geN (tgt := 76) rfl (by decide) (by omega) (by omega) (fun h32 => ?_) (fun h32 => ?_)
    · exact absurd h32 (by omega)
    · refine mm_aload_n rfl rfl ?_
      refine mm_getR rfl rfl rfl (by decide) rfl (mm_gi hG 60 0 61 (by decide)) ?_
      refine mm_iload_n rfl rfl ?_
      refine mm_rdN (x := nI (bd i)) rfl (by decide) rfl (by decide) (by omega) (by decide) rfl (by simp [mm_set, (hb i (by omega)).1]) ?_
      refine mm_iload_n rfl rfl ?_
      refine mm_icmp_neN (tgt := 52) rfl (by decide) (by omega) (by omega) (fun h42 => ?_) (fun h42 => ?_)
      · exact absurd (by rw [show i = i0 by omega]; exact he) h42
      · refine mm_aload_n rfl rfl ?_
        refine mm_getR rfl rfl rfl (by decide) rfl (mm_gi hG 60 1 62 (by decide)) ?_
        refine mm_iload_n rfl rfl ?_
        refine mm_rdN rfl (by decide) rfl (by decide) (by omega) (by decide) rfl rfl ?_
        refine mm_ireturn rfl rfl rfl (by decide) (by decide) ?_
        exact ⟨by rw [show i = i0 by omega]; simp [mm_set], rfl, rfl, rfl⟩
  | n + 1, i, hn, hi => by
    have hbi := hb i (by omega)
    refine mm_iload_n rfl rfl ?_
    refine mm_aload_n rfl rfl ?_
    refine mm_getI (x := nI c) rfl rfl rfl (by decide) rfl (by simp [mm_set, hc]) ?_
    refine mm_icmp_geN (tgt := 76) rfl (by decide) (by omega) (by omega) (fun h32 => ?_) (fun h32 => ?_)
    · exact absurd h32 (by omega)
    · refine mm_aload_n rfl rfl ?_
      refine mm_getR rfl rfl rfl (by decide) rfl (mm_gi hG 60 0 61 (by decide)) ?_
      refine mm_iload_n rfl rfl ?_
      refine mm_rdN (x := nI (bd i)) rfl (by decide) rfl (by decide) (by omega) (by decide) rfl (by simp [mm_set, (hb i (by omega)).1]) ?_
      refine mm_iload_n rfl rfl ?_
      refine mm_icmp_neN (tgt := 52) rfl (by decide) (by omega) (by omega) (fun h42 => ?_) (fun h42 => ?_)
      · refine mm_aload_n rfl rfl ?_
        refine mm_getR rfl rfl rfl (by decide) rfl (mm_gi hG 60 0 61 (by decide)) ?_
        refine mm_iload_n rfl rfl ?_
        refine mm_rdN (x := nI (bd i)) rfl (by decide) rfl (by decide) (by omega) (by decide) rfl (by simp [mm_set, (hb i (by omega)).1]) ?_
        refine mm_iload_n rfl rfl ?_
        refine mm_isS2 (M2 := qY_isLonger) wd_287 qY_isLonger_k (by decide) (sY_isLonger (by omega) (by omega)) (Nat.le_of_ble_eq_true rfl) (by decide) (by decide) rfl (by decide) ?_
        refine mm_if_eqN (tgt := 70) rfl (by decide) (ed_b31 _) (fun h62 => ?_) (fun h62 => ?_)
        · refine mm_iincN rfl rfl (mm_inc1 _) (by decide) ?_
          refine mm_goto (tgt := 27) rfl (by decide) ?_
          exact lY_strokeE hG hc hc2 hb hrow h0 he hf hl n (i + 1) (by omega) (by omega)
        · exact absurd (hl i (by omega)) (by rw [ed_bne h62]; decide)
      · exact absurd h42 (hf i (by omega))
set_option maxRecDepth 100000 in
set_option maxHeartbeats 400000 in
theorem sY_strokeN {E : mm_E} {G : mm_G} {J : mm_J} (hG : mm_GI G) {c key pd : Nat} {bd : Nat → Nat} (hc : J 60 2 = nI c) (hc2 : c ≤ 24) (hb : ∀ i, i < c → J 61 i = nI (bd i) ∧ bd i < 5000) (hkey : key ≤ 15) (hpd : J 60 3 = nI pd) (hrow : ed_row pd key < 6000) (hne : ∀ j, j < c → ¬ bd j = ed_row pd key) : mm_Ret E qY_stroke [.ref 60, .int (nI key)] 86 J G (some (.int (if ed_skV bd (ed_row pd key) c c 0 = 0 then -4 else nI 1000))) 86 (mm_set J 60 3 (nI (ed_skV bd (ed_row pd key) c c 0))) G := by
  refine mm_Met.of qY_stroke_ok (by decide) (mm_cats rfl) (Nat.le_of_ble_eq_true rfl) ?_
  have hsp := ed_sp_le pd
  have hpd2 : pd < 6000 := by unfold ed_row at hrow; omega
  refine mm_aload_n rfl rfl ?_
  refine mm_getI (x := nI pd) rfl rfl rfl (by decide) rfl hpd ?_
  refine mm_iload_n rfl rfl ?_
  refine mm_iconst (v := nI 1) rfl (by decide) ?_
  refine mm_iaddN rfl ?_
  refine mm_aload_n rfl rfl ?_
  refine mm_getI (x := nI pd) rfl rfl rfl (by decide) rfl hpd ?_
  refine mm_isS1 (M2 := qY_span) wd_284 qY_span_k (by decide) (sY_span (by omega)) (Nat.le_of_ble_eq_true rfl) (by decide) (by decide) rfl (by decide) ?_
  refine mm_bipush (v := nI 17) rfl (by decide) ?_
  refine mm_idivN rfl (by omega) (by omega) (by omega) ?_
  refine mm_imulN rfl ?_
  refine mm_iaddN rfl ?_
  refine mm_istore_n rfl (by decide) ?_
  refine mm_aload_n rfl rfl ?_
  refine mm_iconst (v := nI 0) rfl (by decide) ?_
  refine mm_putI rfl rfl rfl (by decide) rfl (Or.inl rfl) rfl rfl ?_
  refine mm_iconst (v := nI 0) rfl (by decide) ?_
  refine mm_istore_n rfl (by decide) ?_
  exact lY_strokeN (row := ed_row pd key) hG hc hc2 hb hrow c 0 0 rfl (by omega) (fun j _ h => hne j h) (Or.inl rfl)
set_option maxRecDepth 100000 in
set_option maxHeartbeats 400000 in
theorem sY_strokeE {E : mm_E} {G : mm_G} {J : mm_J} (hG : mm_GI G) {c key pd : Nat} {bd : Nat → Nat} (hc : J 60 2 = nI c) (hc2 : c ≤ 24) (hb : ∀ i, i < c → J 61 i = nI (bd i) ∧ bd i < 5000) (hkey : key ≤ 15) (hpd : J 60 3 = nI pd) (hrow : ed_row pd key < 6000) {i0 : Nat} (h0 : i0 < c) (he : bd i0 = ed_row pd key) (hf : ∀ j, j < i0 → ¬ bd j = ed_row pd key) (hl : ∀ j, j < c → ed_lg (bd j) (ed_row pd key) = false) : mm_Ret E qY_stroke [.ref 60, .int (nI key)] 86 J G (some (.int (J 62 i0))) 86 (mm_set J 60 3 (nI 0)) G := by
  refine mm_Met.of qY_stroke_ok (by decide) (mm_cats rfl) (Nat.le_of_ble_eq_true rfl) ?_
  have hsp := ed_sp_le pd
  have hpd2 : pd < 6000 := by unfold ed_row at hrow; omega
  refine mm_aload_n rfl rfl ?_
  refine mm_getI (x := nI pd) rfl rfl rfl (by decide) rfl hpd ?_
  refine mm_iload_n rfl rfl ?_
  refine mm_iconst (v := nI 1) rfl (by decide) ?_
  refine mm_iaddN rfl ?_
  refine mm_aload_n rfl rfl ?_
  refine mm_getI (x := nI pd) rfl rfl rfl (by decide) rfl hpd ?_
  refine mm_isS1 (M2 := qY_span) wd_284 qY_span_k (by decide) (sY_span (by omega)) (Nat.le_of_ble_eq_true rfl) (by decide) (by decide) rfl (by decide) ?_
  refine mm_bipush (v := nI 17) rfl (by decide) ?_
  refine mm_idivN rfl (by omega) (by omega) (by omega) ?_
  refine mm_imulN rfl ?_
  refine mm_iaddN rfl ?_
  refine mm_istore_n rfl (by decide) ?_
  refine mm_aload_n rfl rfl ?_
  refine mm_iconst (v := nI 0) rfl (by decide) ?_
  refine mm_putI rfl rfl rfl (by decide) rfl (Or.inl rfl) rfl rfl ?_
  refine mm_iconst (v := nI 0) rfl (by decide) ?_
  refine mm_istore_n rfl (by decide) ?_
  exact lY_strokeE (row := ed_row pd key) hG hc hc2 hb hrow h0 he hf hl i0 0 rfl (by omega)
end
section
def ed_go (bd : Nat → Nat) (row : Nat) : Nat → Nat
  | 0 => 0
  | i + 1 => ed_go bd row i + (if bd i = row ∨ ed_lg (bd i) row = true then 1 else 0)
theorem ed_go_le (bd : Nat → Nat) (row : Nat) : ∀ i, ed_go bd row i ≤ i
  | 0 => Nat.le_refl 0
  | i + 1 => by
    have := ed_go_le bd row i
    unfold ed_go
    split <;> omega
theorem ed_go_len {J : mm_J} {bd : Nat → Nat} {row : Nat} (hr : row < 6000) : ∀ c, (∀ i, i < c → J 61 i = nI (bd i) ∧ bd i < 5000) → ((ed_L J c).filter (ed_kp row (row + ed_sp row))).length = c - ed_go bd row c
  | 0, _ => rfl
  | c + 1, hb => by
    have h1 := ed_go_len (J := J) (bd := bd) hr c (fun i hi => hb i (by omega))
    have h2 := ed_go_le bd row c
    have h3 := hb c (by omega)
    have h4 := ed_sp_le row
    rw [ed_L_s, List.filter_append, List.length_append, h1, ed_go]
    by_cases hk : bd c = row ∨ ed_lg (bd c) row = true
    · rw [List.filter_cons_of_neg (by
        simp only [ed_kp, decide_eq_true_eq, h3.1]
        rw [nI_ltI (by omega) (by omega), nI_ltI (by omega) (by omega)]
        simp only [ed_lg, decide_eq_true_eq] at hk
        omega), if_pos hk]
      simp only [List.filter_nil, List.length_nil]
      omega
    · rw [List.filter_cons_of_pos (by
        simp only [ed_kp, decide_eq_true_eq, h3.1]
        rw [nI_ltI (by omega) (by omega), nI_ltI (by omega) (by omega)]
        simp only [ed_lg, decide_eq_true_eq] at hk
        omega), if_neg hk]
      simp only [List.filter_nil, List.length_cons, List.length_nil]
      omega
/-- the bindings are the list l now -/
def ed_AP (J : mm_J) (G : mm_G) (l : List (Int32 × Int32)) : mm_T := fun r n J' G' => G' = G ∧ r = some (.int (nI 0)) ∧ n = 86 ∧ (∃ c', c' ≤ 24 ∧ J' 60 2 = nI c' ∧ ed_L J' c' = l) ∧ J' 60 3 = J 60 3 ∧ (∀ i, ¬ i = 60 → ¬ i = 61 → ¬ i = 62 → J' i = J i)
set_option maxRecDepth 100000 in
set_option maxHeartbeats 400000 in
theorem lY_asgF {E : mm_E} {G : mm_G} {J : mm_J} (hG : mm_GI G) {c row : Nat} {num : Int32} {bd : Nat → Nat} (hc : J 60 2 = nI c) (hc2 : c ≤ 24) (hb : ∀ i, i < c → J 61 i = nI (bd i) ∧ bd i < 5000) (hrow : row < 6000) : ∀ (n i g : Nat), c - i = n → i ≤ c → g ≤ i → (∃ j, i ≤ j ∧ j < c ∧ ed_lg row (bd j) = true) → mm_Go E qY_assign 5 [some (.ref 60), some (.int (nI row)), some (.int num), some (.int (nI g)), some (.int (nI i))] [] 86 J G 0 0 (mm_Fm E qY_assign (mm_is (some (.int (-3))) 86 J G))
  | 0, i, g, hn, hi, hg, hx => by
    exact absurd hx (fun ⟨j, h1, h2, _⟩ => by omega)
  | n + 1, i, g, hn, hi, hg, hx => by
    obtain ⟨j, hj1, hj2, hj3⟩ := hx
    have hbi := hb i (by omega)
    refine mm_iload rfl rfl ?_
    refine mm_aload_n rfl rfl ?_
    refine mm_getI (x := nI c) rfl rfl rfl (by decide) rfl hc ?_
    refine mm_icmp_geN (tgt := 65) rfl (by decide) (by omega) (by omega) (fun h11 => ?_) (fun h11 => ?_)
    · exact absurd h11 (by omega)
    · refine mm_iload_n rfl rfl ?_
      refine mm_aload_n rfl rfl ?_
      refine mm_getR rfl rfl rfl (by decide) rfl (mm_gi hG 60 0 61 (by decide)) ?_
      refine mm_iload rfl rfl ?_
      refine mm_rdN (x := nI (bd i)) rfl (by decide) rfl (by decide) (by omega) (by decide) rfl (hb i (by omega)).1 ?_
      refine mm_isS2 (M2 := qY_isLonger) wd_287 qY_isLonger_k (by decide) (sY_isLonger (by omega) (by omega)) (Nat.le_of_ble_eq_true rfl) (by decide) (by decide) rfl (by decide) ?_
      refine mm_if_eqN (tgt := 31) rfl (by decide) (ed_b31 _) (fun h25 => ?_) (fun h25 => ?_)
      · refine mm_aload_n rfl rfl ?_
        refine mm_getR rfl rfl rfl (by decide) rfl (mm_gi hG 60 0 61 (by decide)) ?_
        refine mm_iload rfl rfl ?_
        refine mm_rdN (x := nI (bd i)) rfl (by decide) rfl (by decide) (by omega) (by decide) rfl (hb i (by omega)).1 ?_
        refine mm_iload_n rfl rfl ?_
        refine mm_icmp_eqN (tgt := 56) rfl (by decide) (by omega) (by omega) (fun h39 => ?_) (fun h39 => ?_)
        · refine mm_iincN rfl rfl (mm_inc1 _) (by decide) ?_
          refine mm_iincN rfl rfl (mm_inc1 _) (by decide) ?_
          refine mm_goto (tgt := 5) rfl (by decide) ?_
          exact lY_asgF hG hc hc2 hb hrow n (i + 1) _ (by omega) (by omega) (by omega) ⟨j, by
            rcases Nat.lt_or_eq_of_le hj1 with e | e
            · exact e
            · subst e
              exact absurd hj3 (by rw [ed_beq h25]; decide), hj2, hj3⟩
        · refine mm_aload_n rfl rfl ?_
          refine mm_getR rfl rfl rfl (by decide) rfl (mm_gi hG 60 0 61 (by decide)) ?_
          refine mm_iload rfl rfl ?_
          refine mm_rdN (x := nI (bd i)) rfl (by decide) rfl (by decide) (by omega) (by decide) rfl (hb i (by omega)).1 ?_
          refine mm_iload_n rfl rfl ?_
          refine mm_isS2 (M2 := qY_isLonger) wd_287 qY_isLonger_k (by decide) (sY_isLonger (by omega) (by omega)) (Nat.le_of_ble_eq_true rfl) (by decide) (by decide) rfl (by decide) ?_
          refine mm_if_eqN (tgt := 59) rfl (by decide) (ed_b31 _) (fun h53 => ?_) (fun h53 => ?_)
          · refine mm_iincN rfl rfl (mm_inc1 _) (by decide) ?_
            refine mm_goto (tgt := 5) rfl (by decide) ?_
            exact lY_asgF hG hc hc2 hb hrow n (i + 1) _ (by omega) (by omega) (by omega) ⟨j, by
              rcases Nat.lt_or_eq_of_le hj1 with e | e
              · exact e
              · subst e
                exact absurd hj3 (by rw [ed_beq h25]; decide), hj2, hj3⟩
          · refine mm_iincN rfl rfl (mm_inc1 _) (by decide) ?_
            refine mm_iincN rfl rfl (mm_inc1 _) (by decide) ?_
            refine mm_goto (tgt := 5) rfl (by decide) ?_
            exact lY_asgF hG hc hc2 hb hrow n (i + 1) _ (by omega) (by omega) (by omega) ⟨j, by
              rcases Nat.lt_or_eq_of_le hj1 with e | e
              · exact e
              · subst e
                exact absurd hj3 (by rw [ed_beq h25]; decide), hj2, hj3⟩
      · refine mm_bipush (v := -3) rfl (by decide) ?_
        refine mm_ireturn rfl rfl rfl (by decide) (by decide) ?_
        exact ⟨rfl, rfl, rfl, rfl⟩
set_option maxRecDepth 100000 in
set_option maxHeartbeats 400000 in
theorem sY_assignF {E : mm_E} {G : mm_G} {J : mm_J} (hG : mm_GI G) {c row : Nat} {num : Int32} {bd : Nat → Nat} (hc : J 60 2 = nI c) (hc2 : c ≤ 24) (hb : ∀ i, i < c → J 61 i = nI (bd i) ∧ bd i < 5000) (hrow : row < 6000) (hx : ∃ j, j < c ∧ ed_lg row (bd j) = true) : mm_Ret E qY_assign [.ref 60, .int (nI row), .int num] 86 J G (some (.int (-3))) 86 J G := by
  refine mm_Met.of qY_assign_ok (by decide) (mm_cats rfl) (Nat.le_of_ble_eq_true rfl) ?_
  refine mm_iconst (v := nI 0) rfl (by decide) ?_
  refine mm_istore_n rfl (by decide) ?_
  refine mm_iconst (v := nI 0) rfl (by decide) ?_
  refine mm_istore rfl (by decide) ?_
  obtain ⟨j, h1, h2⟩ := hx
  exact lY_asgF hG hc hc2 hb hrow c 0 0 rfl (by omega) (by omega) ⟨j, by omega, h1, h2⟩
set_option maxRecDepth 100000 in
set_option maxHeartbeats 400000 in
theorem lY_asgN {E : mm_E} {G : mm_G} {J : mm_J} (hG : mm_GI G) {c row : Nat} {num : Int32} {bd : Nat → Nat} (hc : J 60 2 = nI c) (hc2 : c ≤ 24) (hb : ∀ i, i < c → J 61 i = nI (bd i) ∧ bd i < 5000) (hrow : row < 6000) {F : mm_F} (hno : ∀ j, j < c → ed_lg row (bd j) = false) (kk : mm_Go E qY_assign 65 [some (.ref 60), some (.int (nI row)), some (.int num), some (.int (nI (ed_go bd row c))), some (.int (nI c))] [] 86 J G 0 0 F) : ∀ (n i : Nat), c - i = n → i ≤ c → mm_Go E qY_assign 5 [some (.ref 60), some (.int (nI row)), some (.int num), some (.int (nI (ed_go bd row i))), some (.int (nI i))] [] 86 J G 0 0 F
  | 0, i, hn, hi => by
    refine mm_iload rfl rfl ?_
    refine mm_aload_n rfl rfl ?_
    refine mm_getI (x := nI c) rfl rfl rfl (by decide) rfl hc ?_
    refine mm_icmp_geN (tgt := 65) rfl (by decide) (by omega) (by omega) (fun h11 => ?_) (fun h11 => ?_)
    · obtain rfl : c = i := by omega
      exact kk
    · exact absurd h11 (by omega)
  | n + 1, i, hn, hi => by
    have hbi := hb i (by omega)
    have hgl := ed_go_le bd row i
    refine mm_iload rfl rfl ?_
    refine mm_aload_n rfl rfl ?_
    refine mm_getI (x := nI c) rfl rfl rfl (by decide) rfl hc ?_
    refine mm_icmp_geN (tgt := 65) rfl (by decide) (by omega) (by omega) (fun h11 => ?_) (fun h11 => ?_)
    · exact absurd h11 (by omega)
    · refine mm_iload_n rfl rfl ?_
      refine mm_aload_n rfl rfl ?_
      refine mm_getR rfl rfl rfl (by decide) rfl (mm_gi hG 60 0 61 (by decide)) ?_
      refine mm_iload rfl rfl ?_
      refine mm_rdN (x := nI (bd i)) rfl (by decide) rfl (by decide) (by omega) (by decide) rfl (hb i (by omega)).1 ?_
      refine mm_isS2 (M2 := qY_isLonger) wd_287 qY_isLonger_k (by decide) (sY_isLonger (by omega) (by omega)) (Nat.le_of_ble_eq_true rfl) (by decide) (by decide) rfl (by decide) ?_
      refine mm_if_eqN (tgt := 31) rfl (by decide) (ed_b31 _) (fun h25 => ?_) (fun h25 => ?_)
      · refine mm_aload_n rfl rfl ?_
        refine mm_getR rfl rfl rfl (by decide) rfl (mm_gi hG 60 0 61 (by decide)) ?_
        refine mm_iload rfl rfl ?_
        refine mm_rdN (x := nI (bd i)) rfl (by decide) rfl (by decide) (by omega) (by decide) rfl (hb i (by omega)).1 ?_
        refine mm_iload_n rfl rfl ?_
        refine mm_icmp_eqN (tgt := 56) rfl (by decide) (by omega) (by omega) (fun h39 => ?_) (fun h39 => ?_)
        · refine mm_iincN rfl rfl (mm_inc1 _) (by decide) ?_
          refine mm_iincN rfl rfl (mm_inc1 _) (by decide) ?_
          refine mm_goto (tgt := 5) rfl (by decide) ?_
          have K := lY_asgN (E := E) hG hc hc2 hb hrow hno kk n (i + 1) (by omega) (by omega)
          rw [ed_go, if_pos (Or.inl h39)] at K
          exact K
        · refine mm_aload_n rfl rfl ?_
          refine mm_getR rfl rfl rfl (by decide) rfl (mm_gi hG 60 0 61 (by decide)) ?_
          refine mm_iload rfl rfl ?_
          refine mm_rdN (x := nI (bd i)) rfl (by decide) rfl (by decide) (by omega) (by decide) rfl (hb i (by omega)).1 ?_
          refine mm_iload_n rfl rfl ?_
          refine mm_isS2 (M2 := qY_isLonger) wd_287 qY_isLonger_k (by decide) (sY_isLonger (by omega) (by omega)) (Nat.le_of_ble_eq_true rfl) (by decide) (by decide) rfl (by decide) ?_
          refine mm_if_eqN (tgt := 59) rfl (by decide) (ed_b31 _) (fun h53 => ?_) (fun h53 => ?_)
          · refine mm_iincN rfl rfl (mm_inc1 _) (by decide) ?_
            refine mm_goto (tgt := 5) rfl (by decide) ?_
            have K := lY_asgN (E := E) hG hc hc2 hb hrow hno kk n (i + 1) (by omega) (by omega)
            rw [ed_go, if_neg (fun q => q.elim h39 (fun q => by rw [ed_beq h53] at q; exact absurd q (by decide))), Nat.add_zero] at K
            exact K
          · refine mm_iincN rfl rfl (mm_inc1 _) (by decide) ?_
            refine mm_iincN rfl rfl (mm_inc1 _) (by decide) ?_
            refine mm_goto (tgt := 5) rfl (by decide) ?_
            have K := lY_asgN (E := E) hG hc hc2 hb hrow hno kk n (i + 1) (by omega) (by omega)
            rw [ed_go, if_pos (Or.inr (ed_bne h53))] at K
            exact K
      · exact absurd (hno i (by omega)) (by rw [ed_bne h25]; decide)
set_option maxRecDepth 100000 in
set_option maxHeartbeats 400000 in
theorem sY_assignU {E : mm_E} {G : mm_G} {J : mm_J} (hG : mm_GI G) {c row : Nat} {bd : Nat → Nat} (hc : J 60 2 = nI c) (hc2 : c ≤ 24) (hb : ∀ i, i < c → J 61 i = nI (bd i) ∧ bd i < 5000) (hrow : row < 6000) (hno : ∀ j, j < c → ed_lg row (bd j) = false) : mm_Met E qY_assign [.ref 60, .int (nI row), .int (-1)] 86 J G (ed_AP J G ((ed_L J c).filter (ed_kp row (row + 1)))) := by
  refine mm_Met.of qY_assign_ok (by decide) (mm_cats rfl) (Nat.le_of_ble_eq_true rfl) ?_
  refine mm_iconst (v := nI 0) rfl (by decide) ?_
  refine mm_istore_n rfl (by decide) ?_
  refine mm_iconst (v := nI 0) rfl (by decide) ?_
  refine mm_istore rfl (by decide) ?_
  refine lY_asgN hG hc hc2 hb hrow hno ?_ c 0 rfl (Nat.zero_le _)
  refine mm_iload_n rfl rfl ?_
  refine mm_iconst (v := -1) rfl (by decide) ?_
  refine mm_icmp_ne (tgt := 80) rfl (by decide) (fun h67 => ?_) (fun h67 => ?_)
  · exact absurd rfl h67
  · refine mm_aload_n rfl rfl ?_
    refine mm_iload_n rfl rfl ?_
    refine mm_iload_n rfl rfl ?_
    refine mm_iconst (v := nI 1) rfl (by decide) ?_
    refine mm_iaddN rfl ?_
    refine mm_mV2 (M2 := qY_drop) wd_433 qY_drop_k (by decide) (sY_drop hG hc hc2) rfl (by decide) (Nat.le_of_ble_eq_true rfl) (by decide) (by decide) rfl (fun r n' J' G' hP => ?_)
    obtain ⟨rfl, rfl, rfl, ⟨c', hc'1, hc'2, hc'3⟩, hpn, hfr⟩ := hP
    refine ⟨Nat.le_refl _, ?_⟩
    refine mm_iconst (v := nI 0) rfl (by decide) ?_
    refine mm_ireturn rfl rfl rfl (by decide) (by decide) ?_
    exact ⟨rfl, rfl, rfl, ⟨c', by omega, hc'2, hc'3⟩, hpn, hfr⟩
set_option maxRecDepth 100000 in
set_option maxHeartbeats 400000 in
theorem sY_assignX {E : mm_E} {G : mm_G} {J : mm_J} (hG : mm_GI G) {c row : Nat} {num : Int32} {bd : Nat → Nat} (hc : J 60 2 = nI c) (hc2 : c ≤ 24) (hb : ∀ i, i < c → J 61 i = nI (bd i) ∧ bd i < 5000) (hrow : row < 6000) (hno : ∀ j, j < c → ed_lg row (bd j) = false) (hnum : ¬ num = -1) (hfull : 24 ≤ c - ed_go bd row c) : mm_Ret E qY_assign [.ref 60, .int (nI row), .int num] 86 J G (some (.int (-3))) 86 J G := by
  refine mm_Met.of qY_assign_ok (by decide) (mm_cats rfl) (Nat.le_of_ble_eq_true rfl) ?_
  refine mm_iconst (v := nI 0) rfl (by decide) ?_
  refine mm_istore_n rfl (by decide) ?_
  refine mm_iconst (v := nI 0) rfl (by decide) ?_
  refine mm_istore rfl (by decide) ?_
  refine lY_asgN hG hc hc2 hb hrow hno ?_ c 0 rfl (Nat.zero_le _)
  have hgl := ed_go_le bd row c
  refine mm_iload_n rfl rfl ?_
  refine mm_iconst (v := -1) rfl (by decide) ?_
  refine mm_icmp_ne (tgt := 80) rfl (by decide) (fun h67 => ?_) (fun h67 => ?_)
  · refine mm_aload_n rfl rfl ?_
    refine mm_getI (x := nI c) rfl rfl rfl (by decide) rfl hc ?_
    refine mm_iload_n rfl rfl ?_
    refine mm_isubN rfl (by omega) ?_
    refine mm_bipush (v := nI 24) rfl (by decide) ?_
    refine mm_icmp_ltN (tgt := 94) rfl (by decide) (by omega) (by omega) (fun h88 => ?_) (fun h88 => ?_)
    · exact absurd h88 (by omega)
    · refine mm_bipush (v := -3) rfl (by decide) ?_
      refine mm_ireturn rfl rfl rfl (by decide) (by decide) ?_
      exact ⟨rfl, rfl, rfl, rfl⟩
  · exact absurd h67 hnum
set_option maxRecDepth 100000 in
set_option maxHeartbeats 400000 in
theorem sY_assignB {E : mm_E} {G : mm_G} {J : mm_J} (hG : mm_GI G) {c row : Nat} {num : Int32} {bd : Nat → Nat} (hc : J 60 2 = nI c) (hc2 : c ≤ 24) (hb : ∀ i, i < c → J 61 i = nI (bd i) ∧ bd i < 5000) (hrow : row < 6000) (hno : ∀ j, j < c → ed_lg row (bd j) = false) (hnum : ¬ num = -1) (hfull : c - ed_go bd row c < 24) : mm_Met E qY_assign [.ref 60, .int (nI row), .int num] 86 J G (ed_AP J G ((ed_L J c).filter (ed_kp row (row + ed_sp row)) ++ [(nI row, num)])) := by
  refine mm_Met.of qY_assign_ok (by decide) (mm_cats rfl) (Nat.le_of_ble_eq_true rfl) ?_
  refine mm_iconst (v := nI 0) rfl (by decide) ?_
  refine mm_istore_n rfl (by decide) ?_
  refine mm_iconst (v := nI 0) rfl (by decide) ?_
  refine mm_istore rfl (by decide) ?_
  refine lY_asgN hG hc hc2 hb hrow hno ?_ c 0 rfl (Nat.zero_le _)
  have hgl := ed_go_le bd row c
  have hsp := ed_sp_le row
  refine mm_iload_n rfl rfl ?_
  refine mm_iconst (v := -1) rfl (by decide) ?_
  refine mm_icmp_ne (tgt := 80) rfl (by decide) (fun h67 => ?_) (fun h67 => ?_)
  · refine mm_aload_n rfl rfl ?_
    refine mm_getI (x := nI c) rfl rfl rfl (by decide) rfl hc ?_
    refine mm_iload_n rfl rfl ?_
    refine mm_isubN rfl (by omega) ?_
    refine mm_bipush (v := nI 24) rfl (by decide) ?_
    refine mm_icmp_ltN (tgt := 94) rfl (by decide) (by omega) (by omega) (fun h88 => ?_) (fun h88 => ?_)
    · refine mm_aload_n rfl rfl ?_
      refine mm_iload_n rfl rfl ?_
      refine mm_iload_n rfl rfl ?_
      refine mm_iload_n rfl rfl ?_
      refine mm_isS1 (M2 := qY_span) wd_284 qY_span_k (by decide) (sY_span (by omega)) (Nat.le_of_ble_eq_true rfl) (by decide) (by decide) rfl (by decide) ?_
      refine mm_iaddN rfl ?_
      refine mm_mV2 (M2 := qY_drop) wd_433 qY_drop_k (by decide) (sY_drop hG hc hc2) rfl (by decide) (Nat.le_of_ble_eq_true rfl) (by decide) (by decide) rfl (fun r n' J' G' hP => ?_)
      obtain ⟨rfl, rfl, rfl, ⟨c', hc'1, hc'2, hc'3⟩, hpn, hfr⟩ := hP
      refine ⟨Nat.le_refl _, ?_⟩
      have hc24 : c' < 24 := by
        have h1 := congrArg List.length hc'3
        rw [ed_L_l, ed_go_len hrow c hb] at h1
        omega
      refine mm_aload_n rfl rfl ?_
      refine mm_getR rfl rfl rfl (by decide) rfl (mm_gi hG 60 0 61 (by decide)) ?_
      refine mm_aload_n rfl rfl ?_
      refine mm_getI (x := nI c') rfl rfl rfl (by decide) rfl hc'2 ?_
      refine mm_iload_n rfl rfl ?_
      refine mm_wrN rfl (by decide) rfl (by decide) (by omega) (by decide) rfl ?_
      refine mm_aload_n rfl rfl ?_
      refine mm_getR rfl rfl rfl (by decide) rfl (mm_gi hG 60 1 62 (by decide)) ?_
      refine mm_aload_n rfl rfl ?_
      refine mm_getI (x := nI c') rfl rfl rfl (by decide) rfl (by simp [mm_set, hc'2]) ?_
      refine mm_iload_n rfl rfl ?_
      refine mm_wrN rfl (by decide) rfl (by decide) (by omega) (by decide) rfl ?_
      refine mm_aload_n rfl rfl ?_
      refine mm_dup rfl rfl ?_
      refine mm_getI (x := nI c') rfl rfl rfl (by decide) rfl (by simp [mm_set, hc'2]) ?_
      refine mm_iconst (v := nI 1) rfl (by decide) ?_
      refine mm_iaddN rfl ?_
      refine mm_putI rfl rfl rfl (by decide) rfl (Or.inl rfl) rfl rfl ?_
      refine mm_iconst (v := nI 0) rfl (by decide) ?_
      refine mm_ireturn rfl rfl rfl (by decide) (by decide) ?_
      refine ⟨rfl, rfl, rfl, ⟨c' + 1, by omega, by simp [mm_set], ?_⟩, by simp [mm_set, hpn], fun z h1 h2 h3 => by funext j; simp [mm_set, h1, h2, h3, hfr z h1 h2 h3]⟩
      rw [ed_L_s, ← hc'3, ed_L_c (J := J') (fun j hj => by simp [mm_set, show ¬ j = c' by omega])]
      simp [mm_set]
    · exact absurd h88 (by omega)
  · exact absurd h67 hnum
def ed_fit (a b d : Int32) : Bool := ed_ky a && ed_kn b && ed_kn d && (decide (¬ b = -1) || decide (d = -1))
set_option maxRecDepth 100000 in
set_option maxHeartbeats 400000 in
theorem lE_bind0 {E : mm_E} {G : mm_G} {J : mm_J} {a b d num : Int32} {fb : Nat} (hfb : fb < 2) (hx : fb = 0 ∨ num < -1 ∨ nI 21 < num) : mm_Go E qE_bind 36 [some (.ref 0), some (.int a), some (.int b), some (.int d), some (.int num), none] [.int (nI fb)] 86 J G 0 0 (mm_Fm E qE_bind (mm_is (some (.int (-1))) 86 J G)) := by
  refine mm_istore rfl (by decide) ?_
  refine mm_iload rfl rfl ?_
  refine mm_if_eqN (tgt := 56) rfl (by decide) (by omega) (fun h40 => ?_) (fun h40 => ?_)
  · refine mm_iconst (v := -1) rfl (by decide) ?_
    refine mm_ireturn rfl rfl rfl (by decide) (by decide) ?_
    exact ⟨rfl, rfl, rfl, rfl⟩
  · refine mm_iload rfl rfl ?_
    refine mm_iconst (v := -1) rfl (by decide) ?_
    refine mm_icmp_lt (tgt := 56) rfl (by decide) (fun h46 => ?_) (fun h46 => ?_)
    · refine mm_iconst (v := -1) rfl (by decide) ?_
      refine mm_ireturn rfl rfl rfl (by decide) (by decide) ?_
      exact ⟨rfl, rfl, rfl, rfl⟩
    · refine mm_iload rfl rfl ?_
      refine mm_bipush (v := nI 21) rfl (by decide) ?_
      refine mm_icmp_le (tgt := 58) rfl (by decide) (fun h53 => ?_) (fun h53 => ?_)
      · exact hx.elim (fun q => absurd q h40) (fun q => q.elim (fun q => absurd q h46) (fun q => absurd h53 (Int32.not_le.mpr q)))
      · refine mm_iconst (v := -1) rfl (by decide) ?_
        refine mm_ireturn rfl rfl rfl (by decide) (by decide) ?_
        exact ⟨rfl, rfl, rfl, rfl⟩
set_option maxRecDepth 100000 in
set_option maxHeartbeats 400000 in
theorem sE_bind0 {E : mm_E} {G : mm_G} {J : mm_J} {a b d num : Int32} (hx : ed_fit a b d = false ∨ num < -1 ∨ nI 21 < num) : mm_Ret E qE_bind [.ref 0, .int a, .int b, .int d, .int num] 86 J G (some (.int (-1))) 86 J G := by
  refine mm_Met.of qE_bind_ok (by decide) (mm_cats rfl) (Nat.le_of_ble_eq_true rfl) ?_
  refine mm_iload_n rfl rfl ?_
  refine mm_isS1 (M2 := qE_isKey) wd_420 qE_isKey_k (by decide) sE_isKey (Nat.le_of_ble_eq_true rfl) (by decide) (by decide) rfl (by decide) ?_
  refine mm_if_eqN (tgt := 35) rfl (by decide) (ed_b31 _) (fun h4 => ?_) (fun h4 => ?_)
  · refine mm_iconst (v := nI 0) rfl (by decide) ?_
    exact lE_bind0 (fb := 0) (by decide) (Or.inl rfl)
  · refine mm_iload_n rfl rfl ?_
    refine mm_isS1 (M2 := qE_isKeyOrNone) wd_423 qE_isKeyOrNone_k (by decide) sE_isKeyOrNone (Nat.le_of_ble_eq_true rfl) (by decide) (by decide) rfl (by decide) ?_
    refine mm_if_eqN (tgt := 35) rfl (by decide) (ed_b31 _) (fun h11 => ?_) (fun h11 => ?_)
    · refine mm_iconst (v := nI 0) rfl (by decide) ?_
      exact lE_bind0 (fb := 0) (by decide) (Or.inl rfl)
    · refine mm_iload_n rfl rfl ?_
      refine mm_isS1 (M2 := qE_isKeyOrNone) wd_423 qE_isKeyOrNone_k (by decide) sE_isKeyOrNone (Nat.le_of_ble_eq_true rfl) (by decide) (by decide) rfl (by decide) ?_
      refine mm_if_eqN (tgt := 35) rfl (by decide) (ed_b31 _) (fun h18 => ?_) (fun h18 => ?_)
      · refine mm_iconst (v := nI 0) rfl (by decide) ?_
        exact lE_bind0 (fb := 0) (by decide) (Or.inl rfl)
      · refine mm_iload_n rfl rfl ?_
        refine mm_iconst (v := -1) rfl (by decide) ?_
        refine mm_icmp_ne (tgt := 31) rfl (by decide) (fun h23 => ?_) (fun h23 => ?_)
        · refine mm_iconst (v := nI 1) rfl (by decide) ?_
          refine mm_goto (tgt := 36) rfl (by decide) ?_
          exact lE_bind0 (fb := 1) (by decide) (Or.inr (hx.elim (fun q => absurd q (by simp [ed_fit, ed_bne h4, ed_bne h11, ed_bne h18, h23])) id))
        · refine mm_iload_n rfl rfl ?_
          refine mm_iconst (v := -1) rfl (by decide) ?_
          refine mm_icmp_ne (tgt := 35) rfl (by decide) (fun h28 => ?_) (fun h28 => ?_)
          · refine mm_iconst (v := nI 0) rfl (by decide) ?_
            exact lE_bind0 (fb := 0) (by decide) (Or.inl rfl)
          · refine mm_iconst (v := nI 1) rfl (by decide) ?_
            refine mm_goto (tgt := 36) rfl (by decide) ?_
            exact lE_bind0 (fb := 1) (by decide) (Or.inr (hx.elim (fun q => absurd q (by rw [show ed_fit a b d = true from by unfold ed_fit; rw [ed_bne h4, ed_bne h11, ed_bne h18]; simp [h28]]; decide)) id))
set_option maxRecDepth 100000 in
set_option maxHeartbeats 400000 in
theorem lE_bind1 {E : mm_E} {G : mm_G} {J : mm_J} (hG : mm_GI G) {a b1 d1 : Nat} {b d num : Int32} {Post : mm_T} (hb1 : b + nI 1 = nI b1) (hd1 : d + nI 1 = nI d1) (h1 : ¬ num < -1) (h2 : num ≤ nI 21) (hA : mm_Met E qY_assign [.ref 60, .int (nI ((a + 1) * 289 + b1 * 17 + d1)), .int num] 86 J G Post) (hr : ∀ r n J' G', Post r n J' G' → n = 86 ∧ ∃ x, r = some (.int x)) : mm_Go E qE_bind 36 [some (.ref 0), some (.int (nI a)), some (.int b), some (.int d), some (.int num), none] [.int (nI 1)] 86 J G 0 0 (mm_Fm E qE_bind Post) := by
  refine mm_istore rfl (by decide) ?_
  refine mm_iload rfl rfl ?_
  refine mm_if_eqN (tgt := 56) rfl (by decide) (by decide) (fun h40 => ?_) (fun h40 => ?_)
  · exact absurd h40 (by decide)
  · refine mm_iload rfl rfl ?_
    refine mm_iconst (v := -1) rfl (by decide) ?_
    refine mm_icmp_lt (tgt := 56) rfl (by decide) (fun h46 => ?_) (fun h46 => ?_)
    · exact absurd h46 h1
    · refine mm_iload rfl rfl ?_
      refine mm_bipush (v := nI 21) rfl (by decide) ?_
      refine mm_icmp_le (tgt := 58) rfl (by decide) (fun h53 => ?_) (fun h53 => ?_)
      · refine mm_aload_n rfl rfl ?_
        refine mm_getR rfl rfl rfl (by decide) rfl (mm_gi hG 0 3 60 (by decide)) ?_
        refine mm_iload_n rfl rfl ?_
        refine mm_iload_n rfl rfl ?_
        refine mm_iload_n rfl rfl ?_
        refine mm_isS3 (M2 := qY_join) wd_426 qY_join_k (by decide) (sY_join hb1 hd1) (Nat.le_of_ble_eq_true rfl) (by decide) (by decide) rfl (by decide) ?_
        refine mm_iload rfl rfl ?_
        refine mm_mV2 (M2 := qY_assign) wd_429 qY_assign_k (by decide) hA rfl (by decide) (Nat.le_of_ble_eq_true rfl) (by decide) (by decide) rfl (fun r n' J' G' hP => ?_)
        obtain ⟨rfl, x, rfl⟩ := hr _ _ _ _ hP
        refine ⟨Nat.le_refl _, ?_⟩
        refine mm_ireturn rfl rfl rfl (by decide) (by decide) ?_
        exact hP
      · exact absurd h2 h53
set_option maxRecDepth 100000 in
set_option maxHeartbeats 400000 in
theorem sE_bind1 {E : mm_E} {G : mm_G} {J : mm_J} (hG : mm_GI G) {a b1 d1 : Nat} {b d num : Int32} {Post : mm_T} (hb1 : b + nI 1 = nI b1) (hd1 : d + nI 1 = nI d1) (h1 : ¬ num < -1) (h2 : num ≤ nI 21) (hA : mm_Met E qY_assign [.ref 60, .int (nI ((a + 1) * 289 + b1 * 17 + d1)), .int num] 86 J G Post) (hr : ∀ r n J' G', Post r n J' G' → n = 86 ∧ ∃ x, r = some (.int x)) (hfit : ed_fit (nI a) b d = true) : mm_Met E qE_bind [.ref 0, .int (nI a), .int b, .int d, .int num] 86 J G Post := by
  refine mm_Met.of qE_bind_ok (by decide) (mm_cats rfl) (Nat.le_of_ble_eq_true rfl) ?_
  refine mm_iload_n rfl rfl ?_
  refine mm_isS1 (M2 := qE_isKey) wd_420 qE_isKey_k (by decide) sE_isKey (Nat.le_of_ble_eq_true rfl) (by decide) (by decide) rfl (by decide) ?_
  refine mm_if_eqN (tgt := 35) rfl (by decide) (ed_b31 _) (fun h4 => ?_) (fun h4 => ?_)
  · exact absurd hfit (by simp [ed_fit, ed_beq h4])
  · refine mm_iload_n rfl rfl ?_
    refine mm_isS1 (M2 := qE_isKeyOrNone) wd_423 qE_isKeyOrNone_k (by decide) sE_isKeyOrNone (Nat.le_of_ble_eq_true rfl) (by decide) (by decide) rfl (by decide) ?_
    refine mm_if_eqN (tgt := 35) rfl (by decide) (ed_b31 _) (fun h11 => ?_) (fun h11 => ?_)
    · exact absurd hfit (by simp [ed_fit, ed_beq h11])
    · refine mm_iload_n rfl rfl ?_
      refine mm_isS1 (M2 := qE_isKeyOrNone) wd_423 qE_isKeyOrNone_k (by decide) sE_isKeyOrNone (Nat.le_of_ble_eq_true rfl) (by decide) (by decide) rfl (by decide) ?_
      refine mm_if_eqN (tgt := 35) rfl (by decide) (ed_b31 _) (fun h18 => ?_) (fun h18 => ?_)
      · exact absurd hfit (by simp [ed_fit, ed_beq h18])
      · refine mm_iload_n rfl rfl ?_
        refine mm_iconst (v := -1) rfl (by decide) ?_
        refine mm_icmp_ne (tgt := 31) rfl (by decide) (fun h23 => ?_) (fun h23 => ?_)
        · refine mm_iconst (v := nI 1) rfl (by decide) ?_
          refine mm_goto (tgt := 36) rfl (by decide) ?_
          exact lE_bind1 hG hb1 hd1 h1 h2 hA hr
        · refine mm_iload_n rfl rfl ?_
          refine mm_iconst (v := -1) rfl (by decide) ?_
          refine mm_icmp_ne (tgt := 35) rfl (by decide) (fun h28 => ?_) (fun h28 => ?_)
          · exact absurd hfit (by simp [ed_fit, h23, h28])
          · refine mm_iconst (v := nI 1) rfl (by decide) ?_
            refine mm_goto (tgt := 36) rfl (by decide) ?_
            exact lE_bind1 hG hb1 hd1 h1 h2 hA hr
end
section
theorem ed_sm {q t : Nat} (hq : q < 2 ^ 30) (ht : t < 2 ^ 30) : (if nI q - nI t < nI 0 then nI 0 else nI q - nI t) = nI (q - t) := by
  by_cases h : t ≤ q
  · rw [pk_sub h, if_neg (nI_nlt (Nat.zero_le _) (by omega))]
  · rw [if_pos (by rw [nI_0]; exact pk_sneg ht (by omega))]
    congr 1
    omega
set_option maxRecDepth 100000 in
set_option maxHeartbeats 400000 in
theorem sE_co0 {E : mm_E} {G : mm_G} {J : mm_J} (hG : mm_GI G) {n q t : Nat} (hn : J 2 1 = nI n) (hn2 : n ≤ 100) (hp : J 1 3 = nI q) (hq : q ≤ n) (ht : J 0 7 = nI t) (ht9 : t ≤ 9) {r : Int32} {J2 : mm_J} {G2 : mm_G} (h : mm_Ret E qE_moveTo [.ref 0, .int (nI (min (q + t) n))] 86 J G (some (.int r)) 86 J2 G2) : mm_Ret E qE_carryOut [.ref 0, .int (nI 0)] 86 J G (some (.int r)) 86 J2 G2 := by
  refine mm_Met.of qE_carryOut_ok (by decide) (mm_cats rfl) (Nat.le_of_ble_eq_true rfl) ?_
  refine mm_iload_n rfl rfl ?_
  refine mm_tableIn (off := 99) (tgt := 100) rfl (by decide) (by decide) rfl (by decide) ?_
  refine mm_aload_n rfl rfl ?_
  refine mm_aload_n rfl rfl ?_
  refine mm_getR rfl rfl rfl (by decide) rfl (mm_gi hG 0 0 1 (by decide)) ?_
  refine mm_getI (x := nI q) rfl rfl rfl (by decide) rfl hp ?_
  refine mm_aload_n rfl rfl ?_
  refine mm_getI (x := nI t) rfl rfl rfl (by decide) rfl ht ?_
  refine mm_iaddN rfl ?_
  refine mm_aload_n rfl rfl ?_
  refine mm_getR rfl rfl rfl (by decide) rfl (mm_gi hG 0 0 1 (by decide)) ?_
  refine mm_getR rfl rfl rfl (by decide) rfl (mm_gi hG 1 0 2 (by decide)) ?_
  refine mm_getI (x := nI n) rfl rfl rfl (by decide) rfl hn ?_
  refine mm_minN (by omega) (by omega) rfl wd_298 wd_299 wd_10 wd_300 (by decide) (Nat.le_of_ble_eq_true rfl) (by decide) (by decide) ?_
  refine mm_isV1 (M2 := qE_moveTo) wd_301 qE_moveTo_k (by decide) h rfl (by decide) (Nat.le_of_ble_eq_true rfl) (by decide) (by decide) rfl (by decide) ?_
  refine mm_ireturn rfl rfl rfl (by decide) (by decide) ?_
  exact ⟨rfl, rfl, rfl, rfl⟩
set_option maxRecDepth 100000 in
set_option maxHeartbeats 400000 in
theorem sE_co1 {E : mm_E} {G : mm_G} {J : mm_J} (hG : mm_GI G) {n q t : Nat} (hn : J 2 1 = nI n) (hn2 : n ≤ 100) (hp : J 1 3 = nI q) (hq : q ≤ n) (ht : J 0 7 = nI t) (ht9 : t ≤ 9) {r : Int32} {J2 : mm_J} {G2 : mm_G} (h : mm_Ret E qE_moveTo [.ref 0, .int (nI (q - t))] 86 J G (some (.int r)) 86 J2 G2) : mm_Ret E qE_carryOut [.ref 0, .int (nI 1)] 86 J G (some (.int r)) 86 J2 G2 := by
  refine mm_Met.of qE_carryOut_ok (by decide) (mm_cats rfl) (Nat.le_of_ble_eq_true rfl) ?_
  refine mm_iload_n rfl rfl ?_
  refine mm_tableIn (off := 129) (tgt := 130) rfl (by decide) (by decide) rfl (by decide) ?_
  refine mm_aload_n rfl rfl ?_
  refine mm_aload_n rfl rfl ?_
  refine mm_getR rfl rfl rfl (by decide) rfl (mm_gi hG 0 0 1 (by decide)) ?_
  refine mm_getI (x := nI q) rfl rfl rfl (by decide) rfl hp ?_
  refine mm_aload_n rfl rfl ?_
  refine mm_getI (x := nI t) rfl rfl rfl (by decide) rfl ht ?_
  refine mm_isub rfl ?_
  refine mm_iconst (v := nI 0) rfl (by decide) ?_
  refine mm_max rfl wd_305 wd_306 wd_10 wd_307 (by decide) (Nat.le_of_ble_eq_true rfl) (by decide) (by decide) ?_
  rw [ed_sm (by omega) (by omega)]
  refine mm_isV1 (M2 := qE_moveTo) wd_301 qE_moveTo_k (by decide) h rfl (by decide) (Nat.le_of_ble_eq_true rfl) (by decide) (by decide) rfl (by decide) ?_
  refine mm_ireturn rfl rfl rfl (by decide) (by decide) ?_
  exact ⟨rfl, rfl, rfl, rfl⟩
set_option maxRecDepth 100000 in
set_option maxHeartbeats 400000 in
theorem sE_co2 {E : mm_E} {G : mm_G} {J : mm_J} (hG : mm_GI G) {n q t : Nat} (hn : J 2 1 = nI n) (hn2 : n ≤ 100) (hp : J 1 3 = nI q) (hq : q ≤ n) (ht : J 0 7 = nI t) (ht9 : t ≤ 9) {r : Int32} {J2 : mm_J} {G2 : mm_G} (h : mm_Ret E qE_moveToGoal [.ref 0, .int (nI (ed_below (J 3) n t (ed_lb (J 3) q)))] 86 J G (some (.int r)) 86 J2 G2) : mm_Ret E qE_carryOut [.ref 0, .int (nI 2)] 86 J G (some (.int r)) 86 J2 G2 := by
  refine mm_Met.of qE_carryOut_ok (by decide) (mm_cats rfl) (Nat.le_of_ble_eq_true rfl) ?_
  refine mm_iload_n rfl rfl ?_
  refine mm_tableIn (off := 150) (tgt := 151) rfl (by decide) (by decide) rfl (by decide) ?_
  refine mm_aload_n rfl rfl ?_
  refine mm_aload_n rfl rfl ?_
  refine mm_getR rfl rfl rfl (by decide) rfl (mm_gi hG 0 0 1 (by decide)) ?_
  refine mm_aload_n rfl rfl ?_
  refine mm_getR rfl rfl rfl (by decide) rfl (mm_gi hG 0 0 1 (by decide)) ?_
  refine mm_getI (x := nI q) rfl rfl rfl (by decide) rfl hp ?_
  refine mm_aload_n rfl rfl ?_
  refine mm_getI (x := nI t) rfl rfl rfl (by decide) rfl ht ?_
  refine mm_isV2 (M2 := qT_beginningBelow) wd_308 qT_beginningBelow_k (by decide) (sT_beginningBelow hG hn hn2 ht9 hq) rfl (by decide) (Nat.le_of_ble_eq_true rfl) (by decide) (by decide) rfl (by decide) ?_
  refine mm_isV1 (M2 := qE_moveToGoal) wd_320 qE_moveToGoal_k (by decide) h rfl (by decide) (Nat.le_of_ble_eq_true rfl) (by decide) (by decide) rfl (by decide) ?_
  refine mm_ireturn rfl rfl rfl (by decide) (by decide) ?_
  exact ⟨rfl, rfl, rfl, rfl⟩
set_option maxRecDepth 100000 in
set_option maxHeartbeats 400000 in
theorem sE_co3 {E : mm_E} {G : mm_G} {J : mm_J} (hG : mm_GI G) {n q t : Nat} (hn : J 2 1 = nI n) (hn2 : n ≤ 100) (hp : J 1 3 = nI q) (hq : q ≤ n) (ht : J 0 7 = nI t) (ht9 : t ≤ 9) {r : Int32} {J2 : mm_J} {G2 : mm_G} (h : mm_Ret E qE_moveToGoal [.ref 0, .int (nI (ed_above (J 3) t (ed_lb (J 3) q)))] 86 J G (some (.int r)) 86 J2 G2) : mm_Ret E qE_carryOut [.ref 0, .int (nI 3)] 86 J G (some (.int r)) 86 J2 G2 := by
  refine mm_Met.of qE_carryOut_ok (by decide) (mm_cats rfl) (Nat.le_of_ble_eq_true rfl) ?_
  refine mm_iload_n rfl rfl ?_
  refine mm_tableIn (off := 173) (tgt := 174) rfl (by decide) (by decide) rfl (by decide) ?_
  refine mm_aload_n rfl rfl ?_
  refine mm_aload_n rfl rfl ?_
  refine mm_getR rfl rfl rfl (by decide) rfl (mm_gi hG 0 0 1 (by decide)) ?_
  refine mm_aload_n rfl rfl ?_
  refine mm_getR rfl rfl rfl (by decide) rfl (mm_gi hG 0 0 1 (by decide)) ?_
  refine mm_getI (x := nI q) rfl rfl rfl (by decide) rfl hp ?_
  refine mm_aload_n rfl rfl ?_
  refine mm_getI (x := nI t) rfl rfl rfl (by decide) rfl ht ?_
  refine mm_isV2 (M2 := qT_beginningAbove) wd_326 qT_beginningAbove_k (by decide) (sT_beginningAbove hG ht9 (by omega)) rfl (by decide) (Nat.le_of_ble_eq_true rfl) (by decide) (by decide) rfl (by decide) ?_
  refine mm_isV1 (M2 := qE_moveToGoal) wd_320 qE_moveToGoal_k (by decide) h rfl (by decide) (Nat.le_of_ble_eq_true rfl) (by decide) (by decide) rfl (by decide) ?_
  refine mm_ireturn rfl rfl rfl (by decide) (by decide) ?_
  exact ⟨rfl, rfl, rfl, rfl⟩
set_option maxRecDepth 100000 in
set_option maxHeartbeats 400000 in
theorem sE_co4 {E : mm_E} {G : mm_G} {J : mm_J} (hG : mm_GI G) {n q t : Nat} (hn : J 2 1 = nI n) (hn2 : n ≤ 100) (hp : J 1 3 = nI q) (hq : q ≤ n) (ht : J 0 7 = nI t) (ht9 : t ≤ 9) {r : Int32} {J2 : mm_J} {G2 : mm_G} (h : mm_Ret E qE_moveTo [.ref 0, .int (nI (ed_lb (J 3) q))] 86 J G (some (.int r)) 86 J2 G2) : mm_Ret E qE_carryOut [.ref 0, .int (nI 4)] 86 J G (some (.int r)) 86 J2 G2 := by
  refine mm_Met.of qE_carryOut_ok (by decide) (mm_cats rfl) (Nat.le_of_ble_eq_true rfl) ?_
  refine mm_iload_n rfl rfl ?_
  refine mm_tableIn (off := 196) (tgt := 197) rfl (by decide) (by decide) rfl (by decide) ?_
  refine mm_aload_n rfl rfl ?_
  refine mm_aload_n rfl rfl ?_
  refine mm_getR rfl rfl rfl (by decide) rfl (mm_gi hG 0 0 1 (by decide)) ?_
  refine mm_aload_n rfl rfl ?_
  refine mm_getR rfl rfl rfl (by decide) rfl (mm_gi hG 0 0 1 (by decide)) ?_
  refine mm_getI (x := nI q) rfl rfl rfl (by decide) rfl hp ?_
  refine mm_isV1 (M2 := qT_lineBeginning) wd_324 qT_lineBeginning_k (by decide) (sT_lineBeginning hG (by omega)) rfl (by decide) (Nat.le_of_ble_eq_true rfl) (by decide) (by decide) rfl (by decide) ?_
  refine mm_isV1 (M2 := qE_moveTo) wd_301 qE_moveTo_k (by decide) h rfl (by decide) (Nat.le_of_ble_eq_true rfl) (by decide) (by decide) rfl (by decide) ?_
  refine mm_ireturn rfl rfl rfl (by decide) (by decide) ?_
  exact ⟨rfl, rfl, rfl, rfl⟩
set_option maxRecDepth 100000 in
set_option maxHeartbeats 400000 in
theorem sE_co5 {E : mm_E} {G : mm_G} {J : mm_J} (hG : mm_GI G) {n q t : Nat} (hn : J 2 1 = nI n) (hn2 : n ≤ 100) (hp : J 1 3 = nI q) (hq : q ≤ n) (ht : J 0 7 = nI t) (ht9 : t ≤ 9) {r : Int32} {J2 : mm_J} {G2 : mm_G} (h : mm_Ret E qE_moveTo [.ref 0, .int (nI (ed_le (J 3) n q))] 86 J G (some (.int r)) 86 J2 G2) : mm_Ret E qE_carryOut [.ref 0, .int (nI 5)] 86 J G (some (.int r)) 86 J2 G2 := by
  refine mm_Met.of qE_carryOut_ok (by decide) (mm_cats rfl) (Nat.le_of_ble_eq_true rfl) ?_
  refine mm_iload_n rfl rfl ?_
  refine mm_tableIn (off := 215) (tgt := 216) rfl (by decide) (by decide) rfl (by decide) ?_
  refine mm_aload_n rfl rfl ?_
  refine mm_aload_n rfl rfl ?_
  refine mm_getR rfl rfl rfl (by decide) rfl (mm_gi hG 0 0 1 (by decide)) ?_
  refine mm_aload_n rfl rfl ?_
  refine mm_getR rfl rfl rfl (by decide) rfl (mm_gi hG 0 0 1 (by decide)) ?_
  refine mm_getI (x := nI q) rfl rfl rfl (by decide) rfl hp ?_
  refine mm_isV1 (M2 := qT_lineEnd) wd_325 qT_lineEnd_k (by decide) (sT_lineEnd hG hn hn2 hq) rfl (by decide) (Nat.le_of_ble_eq_true rfl) (by decide) (by decide) rfl (by decide) ?_
  refine mm_isV1 (M2 := qE_moveTo) wd_301 qE_moveTo_k (by decide) h rfl (by decide) (Nat.le_of_ble_eq_true rfl) (by decide) (by decide) rfl (by decide) ?_
  refine mm_ireturn rfl rfl rfl (by decide) (by decide) ?_
  exact ⟨rfl, rfl, rfl, rfl⟩
set_option maxRecDepth 100000 in
set_option maxHeartbeats 400000 in
theorem sE_co6 {E : mm_E} {G : mm_G} {J : mm_J} (hG : mm_GI G) {n q t : Nat} (hn : J 2 1 = nI n) (hn2 : n ≤ 100) (hp : J 1 3 = nI q) (hq : q ≤ n) (ht : J 0 7 = nI t) (ht9 : t ≤ 9) {r : Int32} {J2 : mm_J} {G2 : mm_G} (h : mm_Ret E qE_moveTo [.ref 0, .int (nI (ed_fw (J 3) n t q))] 86 J G (some (.int r)) 86 J2 G2) : mm_Ret E qE_carryOut [.ref 0, .int (nI 6)] 86 J G (some (.int r)) 86 J2 G2 := by
  refine mm_Met.of qE_carryOut_ok (by decide) (mm_cats rfl) (Nat.le_of_ble_eq_true rfl) ?_
  refine mm_iload_n rfl rfl ?_
  refine mm_tableIn (off := 234) (tgt := 235) rfl (by decide) (by decide) rfl (by decide) ?_
  refine mm_aload_n rfl rfl ?_
  refine mm_aload_n rfl rfl ?_
  refine mm_getR rfl rfl rfl (by decide) rfl (mm_gi hG 0 0 1 (by decide)) ?_
  refine mm_aload_n rfl rfl ?_
  refine mm_getR rfl rfl rfl (by decide) rfl (mm_gi hG 0 0 1 (by decide)) ?_
  refine mm_getI (x := nI q) rfl rfl rfl (by decide) rfl hp ?_
  refine mm_aload_n rfl rfl ?_
  refine mm_getI (x := nI t) rfl rfl rfl (by decide) rfl ht ?_
  refine mm_isV2 (M2 := qT_behindWords) wd_330 qT_behindWords_k (by decide) (sT_behindWords hG hn hn2 ht9 hq) rfl (by decide) (Nat.le_of_ble_eq_true rfl) (by decide) (by decide) rfl (by decide) ?_
  refine mm_isV1 (M2 := qE_moveTo) wd_301 qE_moveTo_k (by decide) h rfl (by decide) (Nat.le_of_ble_eq_true rfl) (by decide) (by decide) rfl (by decide) ?_
  refine mm_ireturn rfl rfl rfl (by decide) (by decide) ?_
  exact ⟨rfl, rfl, rfl, rfl⟩
set_option maxRecDepth 100000 in
set_option maxHeartbeats 400000 in
theorem sE_co7 {E : mm_E} {G : mm_G} {J : mm_J} (hG : mm_GI G) {n q t : Nat} (hn : J 2 1 = nI n) (hn2 : n ≤ 100) (hp : J 1 3 = nI q) (hq : q ≤ n) (ht : J 0 7 = nI t) (ht9 : t ≤ 9) {r : Int32} {J2 : mm_J} {G2 : mm_G} (h : mm_Ret E qE_moveTo [.ref 0, .int (nI (ed_bw (J 3) t q))] 86 J G (some (.int r)) 86 J2 G2) : mm_Ret E qE_carryOut [.ref 0, .int (nI 7)] 86 J G (some (.int r)) 86 J2 G2 := by
  refine mm_Met.of qE_carryOut_ok (by decide) (mm_cats rfl) (Nat.le_of_ble_eq_true rfl) ?_
  refine mm_iload_n rfl rfl ?_
  refine mm_tableIn (off := 257) (tgt := 258) rfl (by decide) (by decide) rfl (by decide) ?_
  refine mm_aload_n rfl rfl ?_
  refine mm_aload_n rfl rfl ?_
  refine mm_getR rfl rfl rfl (by decide) rfl (mm_gi hG 0 0 1 (by decide)) ?_
  refine mm_aload_n rfl rfl ?_
  refine mm_getR rfl rfl rfl (by decide) rfl (mm_gi hG 0 0 1 (by decide)) ?_
  refine mm_getI (x := nI q) rfl rfl rfl (by decide) rfl hp ?_
  refine mm_aload_n rfl rfl ?_
  refine mm_getI (x := nI t) rfl rfl rfl (by decide) rfl ht ?_
  refine mm_isV2 (M2 := qT_beforeWords) wd_335 qT_beforeWords_k (by decide) (sT_beforeWords hG ht9 (by omega)) rfl (by decide) (Nat.le_of_ble_eq_true rfl) (by decide) (by decide) rfl (by decide) ?_
  refine mm_isV1 (M2 := qE_moveTo) wd_301 qE_moveTo_k (by decide) h rfl (by decide) (Nat.le_of_ble_eq_true rfl) (by decide) (by decide) rfl (by decide) ?_
  refine mm_ireturn rfl rfl rfl (by decide) (by decide) ?_
  exact ⟨rfl, rfl, rfl, rfl⟩
set_option maxRecDepth 100000 in
set_option maxHeartbeats 400000 in
theorem sE_co8 {E : mm_E} {G : mm_G} {J : mm_J} (hG : mm_GI G) {n q t : Nat} (hn : J 2 1 = nI n) (hn2 : n ≤ 100) (hp : J 1 3 = nI q) (hq : q ≤ n) (ht : J 0 7 = nI t) (ht9 : t ≤ 9) {r : Int32} {J2 : mm_J} {G2 : mm_G} (h : mm_Ret E qE_takeOut [.ref 0, .int (nI q), .int (nI (min (q + t) n))] 86 J G (some (.int r)) 86 J2 G2) : mm_Ret E qE_carryOut [.ref 0, .int (nI 8)] 86 J G (some (.int r)) 86 J2 G2 := by
  refine mm_Met.of qE_carryOut_ok (by decide) (mm_cats rfl) (Nat.le_of_ble_eq_true rfl) ?_
  refine mm_iload_n rfl rfl ?_
  refine mm_tableIn (off := 280) (tgt := 281) rfl (by decide) (by decide) rfl (by decide) ?_
  refine mm_aload_n rfl rfl ?_
  refine mm_aload_n rfl rfl ?_
  refine mm_getR rfl rfl rfl (by decide) rfl (mm_gi hG 0 0 1 (by decide)) ?_
  refine mm_getI (x := nI q) rfl rfl rfl (by decide) rfl hp ?_
  refine mm_aload_n rfl rfl ?_
  refine mm_getR rfl rfl rfl (by decide) rfl (mm_gi hG 0 0 1 (by decide)) ?_
  refine mm_getI (x := nI q) rfl rfl rfl (by decide) rfl hp ?_
  refine mm_aload_n rfl rfl ?_
  refine mm_getI (x := nI t) rfl rfl rfl (by decide) rfl ht ?_
  refine mm_iaddN rfl ?_
  refine mm_aload_n rfl rfl ?_
  refine mm_getR rfl rfl rfl (by decide) rfl (mm_gi hG 0 0 1 (by decide)) ?_
  refine mm_getR rfl rfl rfl (by decide) rfl (mm_gi hG 1 0 2 (by decide)) ?_
  refine mm_getI (x := nI n) rfl rfl rfl (by decide) rfl hn ?_
  refine mm_minN (by omega) (by omega) rfl wd_298 wd_299 wd_10 wd_300 (by decide) (Nat.le_of_ble_eq_true rfl) (by decide) (by decide) ?_
  refine mm_isV2 (M2 := qE_takeOut) wd_339 qE_takeOut_k (by decide) h rfl (by decide) (Nat.le_of_ble_eq_true rfl) (by decide) (by decide) rfl (by decide) ?_
  refine mm_ireturn rfl rfl rfl (by decide) (by decide) ?_
  exact ⟨rfl, rfl, rfl, rfl⟩
set_option maxRecDepth 100000 in
set_option maxHeartbeats 400000 in
theorem sE_co9 {E : mm_E} {G : mm_G} {J : mm_J} (hG : mm_GI G) {n q t : Nat} (hn : J 2 1 = nI n) (hn2 : n ≤ 100) (hp : J 1 3 = nI q) (hq : q ≤ n) (ht : J 0 7 = nI t) (ht9 : t ≤ 9) {r : Int32} {J2 : mm_J} {G2 : mm_G} (h : mm_Ret E qE_takeOut [.ref 0, .int (nI (q - t)), .int (nI q)] 86 J G (some (.int r)) 86 J2 G2) : mm_Ret E qE_carryOut [.ref 0, .int (nI 9)] 86 J G (some (.int r)) 86 J2 G2 := by
  refine mm_Met.of qE_carryOut_ok (by decide) (mm_cats rfl) (Nat.le_of_ble_eq_true rfl) ?_
  refine mm_iload_n rfl rfl ?_
  refine mm_tableIn (off := 317) (tgt := 318) rfl (by decide) (by decide) rfl (by decide) ?_
  refine mm_aload_n rfl rfl ?_
  refine mm_aload_n rfl rfl ?_
  refine mm_getR rfl rfl rfl (by decide) rfl (mm_gi hG 0 0 1 (by decide)) ?_
  refine mm_getI (x := nI q) rfl rfl rfl (by decide) rfl hp ?_
  refine mm_aload_n rfl rfl ?_
  refine mm_getI (x := nI t) rfl rfl rfl (by decide) rfl ht ?_
  refine mm_isub rfl ?_
  refine mm_iconst (v := nI 0) rfl (by decide) ?_
  refine mm_max rfl wd_305 wd_306 wd_10 wd_307 (by decide) (Nat.le_of_ble_eq_true rfl) (by decide) (by decide) ?_
  rw [ed_sm (by omega) (by omega)]
  refine mm_aload_n rfl rfl ?_
  refine mm_getR rfl rfl rfl (by decide) rfl (mm_gi hG 0 0 1 (by decide)) ?_
  refine mm_getI (x := nI q) rfl rfl rfl (by decide) rfl hp ?_
  refine mm_isV2 (M2 := qE_takeOut) wd_339 qE_takeOut_k (by decide) h rfl (by decide) (Nat.le_of_ble_eq_true rfl) (by decide) (by decide) rfl (by decide) ?_
  refine mm_ireturn rfl rfl rfl (by decide) (by decide) ?_
  exact ⟨rfl, rfl, rfl, rfl⟩
set_option maxRecDepth 100000 in
set_option maxHeartbeats 400000 in
theorem sE_co10a {E : mm_E} {G : mm_G} {J : mm_J} (hG : mm_GI G) {n q t : Nat} (hn : J 2 1 = nI n) (hn2 : n ≤ 100) (hp : J 1 3 = nI q) (hq : q ≤ n) (ht : J 0 7 = nI t) (ht9 : t ≤ 9) (hl : J 0 8 = nI 10 ∨ J 0 8 = nI 11) {r : Int32} {J2 : mm_J} {G2 : mm_G} (h : mm_Ret E qE_kill [.ref 0, .int (nI q), .int (nI (ed_lke (J 3) n q)), .int (nI 1)] 86 J G (some (.int r)) 86 J2 G2) : mm_Ret E qE_carryOut [.ref 0, .int (nI 10)] 86 J G (some (.int r)) 86 J2 G2 := by
  refine mm_Met.of qE_carryOut_ok (by decide) (mm_cats rfl) (Nat.le_of_ble_eq_true rfl) ?_
  refine mm_iload_n rfl rfl ?_
  refine mm_tableIn (off := 345) (tgt := 346) rfl (by decide) (by decide) rfl (by decide) ?_
  refine mm_aload_n rfl rfl ?_
  refine mm_aload_n rfl rfl ?_
  refine mm_getR rfl rfl rfl (by decide) rfl (mm_gi hG 0 0 1 (by decide)) ?_
  refine mm_getI (x := nI q) rfl rfl rfl (by decide) rfl hp ?_
  refine mm_aload_n rfl rfl ?_
  refine mm_isV0 (M2 := qE_lineKillEnd) wd_343 qE_lineKillEnd_k (by decide) (sE_lineKillEnd hG hn hn2 hp hq) rfl (by decide) (Nat.le_of_ble_eq_true rfl) (by decide) (by decide) rfl (by decide) ?_
  refine mm_aload_n rfl rfl ?_
  refine mm_getI rfl rfl rfl (by decide) rfl rfl ?_
  refine mm_bipush (v := nI 10) rfl (by decide) ?_
  refine mm_icmp_eq (tgt := 376) rfl (by decide) (fun h364 => ?_) (fun h364 => ?_)
  · refine mm_iconst (v := nI 1) rfl (by decide) ?_
    refine mm_goto (tgt := 381) rfl (by decide) ?_
    refine mm_isV3 (M2 := qE_kill) wd_347 qE_kill_k (by decide) h rfl (by decide) (Nat.le_of_ble_eq_true rfl) (by decide) (by decide) rfl (by decide) ?_
    refine mm_ireturn rfl rfl rfl (by decide) (by decide) ?_
    exact ⟨rfl, rfl, rfl, rfl⟩
  · refine mm_aload_n rfl rfl ?_
    refine mm_getI rfl rfl rfl (by decide) rfl rfl ?_
    refine mm_bipush (v := nI 11) rfl (by decide) ?_
    refine mm_icmp_ne (tgt := 380) rfl (by decide) (fun h373 => ?_) (fun h373 => ?_)
    · exact absurd hl (fun e => e.elim h364 h373)
    · refine mm_iconst (v := nI 1) rfl (by decide) ?_
      refine mm_goto (tgt := 381) rfl (by decide) ?_
      refine mm_isV3 (M2 := qE_kill) wd_347 qE_kill_k (by decide) h rfl (by decide) (Nat.le_of_ble_eq_true rfl) (by decide) (by decide) rfl (by decide) ?_
      refine mm_ireturn rfl rfl rfl (by decide) (by decide) ?_
      exact ⟨rfl, rfl, rfl, rfl⟩
set_option maxRecDepth 100000 in
set_option maxHeartbeats 400000 in
theorem sE_co10b {E : mm_E} {G : mm_G} {J : mm_J} (hG : mm_GI G) {n q t : Nat} (hn : J 2 1 = nI n) (hn2 : n ≤ 100) (hp : J 1 3 = nI q) (hq : q ≤ n) (ht : J 0 7 = nI t) (ht9 : t ≤ 9) (hl : ¬ J 0 8 = nI 10 ∧ ¬ J 0 8 = nI 11) {r : Int32} {J2 : mm_J} {G2 : mm_G} (h : mm_Ret E qE_kill [.ref 0, .int (nI q), .int (nI (ed_lke (J 3) n q)), .int (nI 0)] 86 J G (some (.int r)) 86 J2 G2) : mm_Ret E qE_carryOut [.ref 0, .int (nI 10)] 86 J G (some (.int r)) 86 J2 G2 := by
  refine mm_Met.of qE_carryOut_ok (by decide) (mm_cats rfl) (Nat.le_of_ble_eq_true rfl) ?_
  refine mm_iload_n rfl rfl ?_
  refine mm_tableIn (off := 345) (tgt := 346) rfl (by decide) (by decide) rfl (by decide) ?_
  refine mm_aload_n rfl rfl ?_
  refine mm_aload_n rfl rfl ?_
  refine mm_getR rfl rfl rfl (by decide) rfl (mm_gi hG 0 0 1 (by decide)) ?_
  refine mm_getI (x := nI q) rfl rfl rfl (by decide) rfl hp ?_
  refine mm_aload_n rfl rfl ?_
  refine mm_isV0 (M2 := qE_lineKillEnd) wd_343 qE_lineKillEnd_k (by decide) (sE_lineKillEnd hG hn hn2 hp hq) rfl (by decide) (Nat.le_of_ble_eq_true rfl) (by decide) (by decide) rfl (by decide) ?_
  refine mm_aload_n rfl rfl ?_
  refine mm_getI rfl rfl rfl (by decide) rfl rfl ?_
  refine mm_bipush (v := nI 10) rfl (by decide) ?_
  refine mm_icmp_eq (tgt := 376) rfl (by decide) (fun h364 => ?_) (fun h364 => ?_)
  · exact absurd h364 hl.1
  · refine mm_aload_n rfl rfl ?_
    refine mm_getI rfl rfl rfl (by decide) rfl rfl ?_
    refine mm_bipush (v := nI 11) rfl (by decide) ?_
    refine mm_icmp_ne (tgt := 380) rfl (by decide) (fun h373 => ?_) (fun h373 => ?_)
    · refine mm_iconst (v := nI 0) rfl (by decide) ?_
      refine mm_isV3 (M2 := qE_kill) wd_347 qE_kill_k (by decide) h rfl (by decide) (Nat.le_of_ble_eq_true rfl) (by decide) (by decide) rfl (by decide) ?_
      refine mm_ireturn rfl rfl rfl (by decide) (by decide) ?_
      exact ⟨rfl, rfl, rfl, rfl⟩
    · exact absurd h373 hl.2
set_option maxRecDepth 100000 in
set_option maxHeartbeats 400000 in
theorem sE_co11a {E : mm_E} {G : mm_G} {J : mm_J} (hG : mm_GI G) {q k : Nat} (hp : J 1 3 = nI q) (hq : q ≤ 100) (hk : J 4 4 = nI k) (hk2 : k ≤ 100) {r : Int32} {J2 : mm_J} {G2 : mm_G} (h : mm_Ret E qE_kill [.ref 0, .int (nI (min k q)), .int (nI (max k q)), .int (nI 0)] 86 J G (some (.int r)) 86 J2 G2) : mm_Ret E qE_carryOut [.ref 0, .int (nI 11)] 86 J G (some (.int r)) 86 J2 G2 := by
  refine mm_Met.of qE_carryOut_ok (by decide) (mm_cats rfl) (Nat.le_of_ble_eq_true rfl) ?_
  refine mm_iload_n rfl rfl ?_
  refine mm_tableIn (off := 384) (tgt := 385) rfl (by decide) (by decide) rfl (by decide) ?_
  refine mm_aload_n rfl rfl ?_
  refine mm_aload_n rfl rfl ?_
  refine mm_isV0 (M2 := qE_regionBeginning) wd_362 qE_regionBeginning_k (by decide) (sE_regionBeginning1 hG hp hq hk hk2) rfl (by decide) (Nat.le_of_ble_eq_true rfl) (by decide) (by decide) rfl (by decide) ?_
  refine mm_aload_n rfl rfl ?_
  refine mm_isV0 (M2 := qE_regionEnd) wd_366 qE_regionEnd_k (by decide) (sE_regionEnd1 hG hp hq hk hk2) rfl (by decide) (Nat.le_of_ble_eq_true rfl) (by decide) (by decide) rfl (by decide) ?_
  refine mm_iconst (v := nI 0) rfl (by decide) ?_
  refine mm_isV3 (M2 := qE_kill) wd_347 qE_kill_k (by decide) h rfl (by decide) (Nat.le_of_ble_eq_true rfl) (by decide) (by decide) rfl (by decide) ?_
  refine mm_ireturn rfl rfl rfl (by decide) (by decide) ?_
  exact ⟨rfl, rfl, rfl, rfl⟩
set_option maxRecDepth 100000 in
set_option maxHeartbeats 400000 in
theorem sE_co11b {E : mm_E} {G : mm_G} {J : mm_J} (hG : mm_GI G) {q : Nat} (hp : J 1 3 = nI q) (hq : q ≤ 100) (hk : J 4 4 = -2) {r : Int32} {J2 : mm_J} {G2 : mm_G} (h : mm_Ret E qE_kill [.ref 0, .int (nI q), .int (nI q), .int (nI 0)] 86 J G (some (.int r)) 86 J2 G2) : mm_Ret E qE_carryOut [.ref 0, .int (nI 11)] 86 J G (some (.int r)) 86 J2 G2 := by
  refine mm_Met.of qE_carryOut_ok (by decide) (mm_cats rfl) (Nat.le_of_ble_eq_true rfl) ?_
  refine mm_iload_n rfl rfl ?_
  refine mm_tableIn (off := 384) (tgt := 385) rfl (by decide) (by decide) rfl (by decide) ?_
  refine mm_aload_n rfl rfl ?_
  refine mm_aload_n rfl rfl ?_
  refine mm_isV0 (M2 := qE_regionBeginning) wd_362 qE_regionBeginning_k (by decide) (sE_regionBeginning0 hG hp hq hk) rfl (by decide) (Nat.le_of_ble_eq_true rfl) (by decide) (by decide) rfl (by decide) ?_
  refine mm_aload_n rfl rfl ?_
  refine mm_isV0 (M2 := qE_regionEnd) wd_366 qE_regionEnd_k (by decide) (sE_regionEnd0 hG hp hq hk) rfl (by decide) (Nat.le_of_ble_eq_true rfl) (by decide) (by decide) rfl (by decide) ?_
  refine mm_iconst (v := nI 0) rfl (by decide) ?_
  refine mm_isV3 (M2 := qE_kill) wd_347 qE_kill_k (by decide) h rfl (by decide) (Nat.le_of_ble_eq_true rfl) (by decide) (by decide) rfl (by decide) ?_
  refine mm_ireturn rfl rfl rfl (by decide) (by decide) ?_
  exact ⟨rfl, rfl, rfl, rfl⟩
set_option maxRecDepth 100000 in
set_option maxHeartbeats 400000 in
theorem sE_co12a {E : mm_E} {G : mm_G} {J : mm_J} (hG : mm_GI G) {q k : Nat} (hp : J 1 3 = nI q) (hq : q ≤ 100) (hk : J 4 4 = nI k) (hk2 : k ≤ 100) {r : Int32} {J2 : mm_J} {G2 : mm_G} (h : mm_Ret E qE_copy [.ref 0, .int (nI (min k q)), .int (nI (max k q))] 86 J G (some (.int r)) 86 J2 G2) : mm_Ret E qE_carryOut [.ref 0, .int (nI 12)] 86 J G (some (.int r)) 86 J2 G2 := by
  refine mm_Met.of qE_carryOut_ok (by decide) (mm_cats rfl) (Nat.le_of_ble_eq_true rfl) ?_
  refine mm_iload_n rfl rfl ?_
  refine mm_tableIn (off := 398) (tgt := 399) rfl (by decide) (by decide) rfl (by decide) ?_
  refine mm_aload_n rfl rfl ?_
  refine mm_aload_n rfl rfl ?_
  refine mm_isV0 (M2 := qE_regionBeginning) wd_362 qE_regionBeginning_k (by decide) (sE_regionBeginning1 hG hp hq hk hk2) rfl (by decide) (Nat.le_of_ble_eq_true rfl) (by decide) (by decide) rfl (by decide) ?_
  refine mm_aload_n rfl rfl ?_
  refine mm_isV0 (M2 := qE_regionEnd) wd_366 qE_regionEnd_k (by decide) (sE_regionEnd1 hG hp hq hk hk2) rfl (by decide) (Nat.le_of_ble_eq_true rfl) (by decide) (by decide) rfl (by decide) ?_
  refine mm_isV2 (M2 := qE_copy) wd_370 qE_copy_k (by decide) h rfl (by decide) (Nat.le_of_ble_eq_true rfl) (by decide) (by decide) rfl (by decide) ?_
  refine mm_ireturn rfl rfl rfl (by decide) (by decide) ?_
  exact ⟨rfl, rfl, rfl, rfl⟩
set_option maxRecDepth 100000 in
set_option maxHeartbeats 400000 in
theorem sE_co12b {E : mm_E} {G : mm_G} {J : mm_J} (hG : mm_GI G) {q : Nat} (hp : J 1 3 = nI q) (hq : q ≤ 100) (hk : J 4 4 = -2) {r : Int32} {J2 : mm_J} {G2 : mm_G} (h : mm_Ret E qE_copy [.ref 0, .int (nI q), .int (nI q)] 86 J G (some (.int r)) 86 J2 G2) : mm_Ret E qE_carryOut [.ref 0, .int (nI 12)] 86 J G (some (.int r)) 86 J2 G2 := by
  refine mm_Met.of qE_carryOut_ok (by decide) (mm_cats rfl) (Nat.le_of_ble_eq_true rfl) ?_
  refine mm_iload_n rfl rfl ?_
  refine mm_tableIn (off := 398) (tgt := 399) rfl (by decide) (by decide) rfl (by decide) ?_
  refine mm_aload_n rfl rfl ?_
  refine mm_aload_n rfl rfl ?_
  refine mm_isV0 (M2 := qE_regionBeginning) wd_362 qE_regionBeginning_k (by decide) (sE_regionBeginning0 hG hp hq hk) rfl (by decide) (Nat.le_of_ble_eq_true rfl) (by decide) (by decide) rfl (by decide) ?_
  refine mm_aload_n rfl rfl ?_
  refine mm_isV0 (M2 := qE_regionEnd) wd_366 qE_regionEnd_k (by decide) (sE_regionEnd0 hG hp hq hk) rfl (by decide) (Nat.le_of_ble_eq_true rfl) (by decide) (by decide) rfl (by decide) ?_
  refine mm_isV2 (M2 := qE_copy) wd_370 qE_copy_k (by decide) h rfl (by decide) (Nat.le_of_ble_eq_true rfl) (by decide) (by decide) rfl (by decide) ?_
  refine mm_ireturn rfl rfl rfl (by decide) (by decide) ?_
  exact ⟨rfl, rfl, rfl, rfl⟩
set_option maxRecDepth 100000 in
set_option maxHeartbeats 400000 in
theorem sE_co13 {E : mm_E} {G : mm_G} {J : mm_J} (hG : mm_GI G) {q : Nat} (hp : J 1 3 = nI q) {r : Int32} {J2 : mm_J} {G2 : mm_G} (h : mm_Ret E qE_putKill [.ref 0, .int (nI 0), .int (nI q), .int (nI 0)] 86 J G (some (.int r)) 86 J2 G2) : mm_Ret E qE_carryOut [.ref 0, .int (nI 13)] 86 J G (some (.int r)) 86 J2 G2 := by
  refine mm_Met.of qE_carryOut_ok (by decide) (mm_cats rfl) (Nat.le_of_ble_eq_true rfl) ?_
  refine mm_iload_n rfl rfl ?_
  refine mm_tableIn (off := 411) (tgt := 412) rfl (by decide) (by decide) rfl (by decide) ?_
  refine mm_aload_n rfl rfl ?_
  refine mm_iconst (v := nI 0) rfl (by decide) ?_
  refine mm_aload_n rfl rfl ?_
  refine mm_getR rfl rfl rfl (by decide) rfl (mm_gi hG 0 0 1 (by decide)) ?_
  refine mm_getI (x := nI q) rfl rfl rfl (by decide) rfl hp ?_
  refine mm_iconst (v := nI 0) rfl (by decide) ?_
  refine mm_isV3 (M2 := qE_putKill) wd_374 qE_putKill_k (by decide) h rfl (by decide) (Nat.le_of_ble_eq_true rfl) (by decide) (by decide) rfl (by decide) ?_
  refine mm_ireturn rfl rfl rfl (by decide) (by decide) ?_
  exact ⟨rfl, rfl, rfl, rfl⟩
set_option maxRecDepth 100000 in
set_option maxHeartbeats 400000 in
theorem sE_co14 {E : mm_E} {G : mm_G} {J : mm_J} (hG : mm_GI G)  {r : Int32} {J2 : mm_J} {G2 : mm_G} (h : mm_Ret E qE_putOlderKill [.ref 0] 86 J G (some (.int r)) 86 J2 G2) : mm_Ret E qE_carryOut [.ref 0, .int (nI 14)] 86 J G (some (.int r)) 86 J2 G2 := by
  refine mm_Met.of qE_carryOut_ok (by decide) (mm_cats rfl) (Nat.le_of_ble_eq_true rfl) ?_
  refine mm_iload_n rfl rfl ?_
  refine mm_tableIn (off := 425) (tgt := 426) rfl (by decide) (by decide) rfl (by decide) ?_
  refine mm_aload_n rfl rfl ?_
  refine mm_isV0 (M2 := qE_putOlderKill) wd_382 qE_putOlderKill_k (by decide) h rfl (by decide) (Nat.le_of_ble_eq_true rfl) (by decide) (by decide) rfl (by decide) ?_
  refine mm_ireturn rfl rfl rfl (by decide) (by decide) ?_
  exact ⟨rfl, rfl, rfl, rfl⟩
set_option maxRecDepth 100000 in
set_option maxHeartbeats 400000 in
theorem sE_co15 {E : mm_E} {G : mm_G} {J : mm_J} (hG : mm_GI G)  {r : Int32} {J2 : mm_J} {G2 : mm_G} (h : mm_Ret E qE_setMark [.ref 0, .int (J 1 3)] 86 J G (some (.int r)) 86 J2 G2) : mm_Ret E qE_carryOut [.ref 0, .int (nI 15)] 86 J G (some (.int r)) 86 J2 G2 := by
  refine mm_Met.of qE_carryOut_ok (by decide) (mm_cats rfl) (Nat.le_of_ble_eq_true rfl) ?_
  refine mm_iload_n rfl rfl ?_
  refine mm_tableIn (off := 430) (tgt := 431) rfl (by decide) (by decide) rfl (by decide) ?_
  refine mm_aload_n rfl rfl ?_
  refine mm_aload_n rfl rfl ?_
  refine mm_getR rfl rfl rfl (by decide) rfl (mm_gi hG 0 0 1 (by decide)) ?_
  refine mm_getI (x := J 1 3) rfl rfl rfl (by decide) rfl rfl ?_
  refine mm_isV1 (M2 := qE_setMark) wd_378 qE_setMark_k (by decide) h rfl (by decide) (Nat.le_of_ble_eq_true rfl) (by decide) (by decide) rfl (by decide) ?_
  refine mm_ireturn rfl rfl rfl (by decide) (by decide) ?_
  exact ⟨rfl, rfl, rfl, rfl⟩
set_option maxRecDepth 100000 in
set_option maxHeartbeats 400000 in
theorem sE_co16 {E : mm_E} {G : mm_G} {J : mm_J} (hG : mm_GI G)  {r : Int32} {J2 : mm_J} {G2 : mm_G} (h : mm_Ret E qE_swapMark [.ref 0] 86 J G (some (.int r)) 86 J2 G2) : mm_Ret E qE_carryOut [.ref 0, .int (nI 16)] 86 J G (some (.int r)) 86 J2 G2 := by
  refine mm_Met.of qE_carryOut_ok (by decide) (mm_cats rfl) (Nat.le_of_ble_eq_true rfl) ?_
  refine mm_iload_n rfl rfl ?_
  refine mm_tableIn (off := 442) (tgt := 443) rfl (by decide) (by decide) rfl (by decide) ?_
  refine mm_aload_n rfl rfl ?_
  refine mm_isV0 (M2 := qE_swapMark) wd_386 qE_swapMark_k (by decide) h rfl (by decide) (Nat.le_of_ble_eq_true rfl) (by decide) (by decide) rfl (by decide) ?_
  refine mm_ireturn rfl rfl rfl (by decide) (by decide) ?_
  exact ⟨rfl, rfl, rfl, rfl⟩
set_option maxRecDepth 100000 in
set_option maxHeartbeats 400000 in
theorem sE_co17 {E : mm_E} {G : mm_G} {J : mm_J} (hG : mm_GI G)  {r : Int32} {J2 : mm_J} {G2 : mm_G} (h : mm_Ret E qE_swapCharacters [.ref 0] 86 J G (some (.int r)) 86 J2 G2) : mm_Ret E qE_carryOut [.ref 0, .int (nI 17)] 86 J G (some (.int r)) 86 J2 G2 := by
  refine mm_Met.of qE_carryOut_ok (by decide) (mm_cats rfl) (Nat.le_of_ble_eq_true rfl) ?_
  refine mm_iload_n rfl rfl ?_
  refine mm_tableIn (off := 447) (tgt := 448) rfl (by decide) (by decide) rfl (by decide) ?_
  refine mm_aload_n rfl rfl ?_
  refine mm_isV0 (M2 := qE_swapCharacters) wd_390 qE_swapCharacters_k (by decide) h rfl (by decide) (Nat.le_of_ble_eq_true rfl) (by decide) (by decide) rfl (by decide) ?_
  refine mm_ireturn rfl rfl rfl (by decide) (by decide) ?_
  exact ⟨rfl, rfl, rfl, rfl⟩
set_option maxRecDepth 100000 in
set_option maxHeartbeats 400000 in
theorem sE_co18 {E : mm_E} {G : mm_G} {J : mm_J} (hG : mm_GI G) {n : Nat} (hn : J 2 1 = nI n) {r : Int32} {J2 : mm_J} {G2 : mm_G} (h : mm_Ret E qE_setMark [.ref 0, .int (nI n)] 86 (mm_set J 1 3 (nI 0)) G (some (.int r)) 86 J2 G2) : mm_Ret E qE_carryOut [.ref 0, .int (nI 18)] 86 J G (some (.int r)) 86 J2 G2 := by
  refine mm_Met.of qE_carryOut_ok (by decide) (mm_cats rfl) (Nat.le_of_ble_eq_true rfl) ?_
  refine mm_iload_n rfl rfl ?_
  refine mm_tableIn (off := 452) (tgt := 453) rfl (by decide) (by decide) rfl (by decide) ?_
  refine mm_aload_n rfl rfl ?_
  refine mm_getR rfl rfl rfl (by decide) rfl (mm_gi hG 0 0 1 (by decide)) ?_
  refine mm_iconst (v := nI 0) rfl (by decide) ?_
  refine mm_putI rfl rfl rfl (by decide) rfl (Or.inl rfl) rfl rfl ?_
  refine mm_aload_n rfl rfl ?_
  refine mm_aload_n rfl rfl ?_
  refine mm_getR rfl rfl rfl (by decide) rfl (mm_gi hG 0 0 1 (by decide)) ?_
  refine mm_getR rfl rfl rfl (by decide) rfl (mm_gi hG 1 0 2 (by decide)) ?_
  refine mm_getI (x := nI n) rfl rfl rfl (by decide) rfl (by simp [mm_set, mm_cp, hn]) ?_
  refine mm_isV1 (M2 := qE_setMark) wd_378 qE_setMark_k (by decide) h rfl (by decide) (Nat.le_of_ble_eq_true rfl) (by decide) (by decide) rfl (by decide) ?_
  refine mm_ireturn rfl rfl rfl (by decide) (by decide) ?_
  exact ⟨rfl, rfl, rfl, rfl⟩
set_option maxRecDepth 100000 in
set_option maxHeartbeats 400000 in
theorem sE_co19 {E : mm_E} {G : mm_G} {J : mm_J} (hG : mm_GI G)  {r : Int32} {J2 : mm_J} {G2 : mm_G} (h : mm_Ret E qE_undo [.ref 0] 86 J G (some (.int r)) 86 J2 G2) : mm_Ret E qE_carryOut [.ref 0, .int (nI 19)] 86 J G (some (.int r)) 86 J2 G2 := by
  refine mm_Met.of qE_carryOut_ok (by decide) (mm_cats rfl) (Nat.le_of_ble_eq_true rfl) ?_
  refine mm_iload_n rfl rfl ?_
  refine mm_tableIn (off := 475) (tgt := 476) rfl (by decide) (by decide) rfl (by decide) ?_
  refine mm_aload_n rfl rfl ?_
  refine mm_isV0 (M2 := qE_undo) wd_394 qE_undo_k (by decide) h rfl (by decide) (Nat.le_of_ble_eq_true rfl) (by decide) (by decide) rfl (by decide) ?_
  refine mm_ireturn rfl rfl rfl (by decide) (by decide) ?_
  exact ⟨rfl, rfl, rfl, rfl⟩
set_option maxRecDepth 100000 in
set_option maxHeartbeats 400000 in
theorem sE_co20 {E : mm_E} {G : mm_G} {J : mm_J} (hG : mm_GI G)  {r : Int32} {J2 : mm_J} {G2 : mm_G} (h : mm_Ret E qE_search [.ref 0] 86 J G (some (.int r)) 86 J2 G2) : mm_Ret E qE_carryOut [.ref 0, .int (nI 20)] 86 J G (some (.int r)) 86 J2 G2 := by
  refine mm_Met.of qE_carryOut_ok (by decide) (mm_cats rfl) (Nat.le_of_ble_eq_true rfl) ?_
  refine mm_iload_n rfl rfl ?_
  refine mm_tableIn (off := 480) (tgt := 481) rfl (by decide) (by decide) rfl (by decide) ?_
  refine mm_aload_n rfl rfl ?_
  refine mm_isV0 (M2 := qE_search) wd_404 qE_search_k (by decide) h rfl (by decide) (Nat.le_of_ble_eq_true rfl) (by decide) (by decide) rfl (by decide) ?_
  refine mm_ireturn rfl rfl rfl (by decide) (by decide) ?_
  exact ⟨rfl, rfl, rfl, rfl⟩
set_option maxRecDepth 100000 in
set_option maxHeartbeats 400000 in
theorem sE_co21 {E : mm_E} {G : mm_G} {J : mm_J}  : mm_Ret E qE_carryOut [.ref 0, .int (nI 21)] 86 J G (some (.int (-2))) 86 J G := by
  refine mm_Met.of qE_carryOut_ok (by decide) (mm_cats rfl) (Nat.le_of_ble_eq_true rfl) ?_
  refine mm_iload_n rfl rfl ?_
  refine mm_tableOut (tgt := 486) rfl (by decide) (by decide) ?_
  refine mm_bipush (v := -2) rfl (by decide) ?_
  refine mm_ireturn rfl rfl rfl (by decide) (by decide) ?_
  exact ⟨rfl, rfl, rfl, rfl⟩
set_option maxRecDepth 100000 in
set_option maxHeartbeats 400000 in
theorem sE_performX {E : mm_E} {G : mm_G} {J : mm_J} {x : Int32} (h : x < 0 ∨ nI 21 < x) : mm_Ret E qE_perform [.ref 0, .int x] 86 J G (some (.int x)) 86 J G := by
  refine mm_Met.of qE_perform_ok (by decide) (mm_cats rfl) (Nat.le_of_ble_eq_true rfl) ?_
  refine mm_iload_n rfl rfl ?_
  refine mm_if_lt (tgt := 10) rfl (by decide) (fun h1 => ?_) (fun h1 => ?_)
  · refine mm_iload_n rfl rfl ?_
    refine mm_ireturn rfl rfl rfl (by decide) (by decide) ?_
    exact ⟨rfl, rfl, rfl, rfl⟩
  · refine mm_iload_n rfl rfl ?_
    refine mm_bipush (v := nI 21) rfl (by decide) ?_
    refine mm_icmp_le (tgt := 12) rfl (by decide) (fun h7 => ?_) (fun h7 => ?_)
    · exact h.elim (fun q => absurd q h1) (fun q => absurd h7 (Int32.not_le.mpr q))
    · refine mm_iload_n rfl rfl ?_
      refine mm_ireturn rfl rfl rfl (by decide) (by decide) ?_
      exact ⟨rfl, rfl, rfl, rfl⟩
set_option maxRecDepth 100000 in
set_option maxHeartbeats 400000 in
theorem sE_perform0 {E : mm_E} {G : mm_G} {J : mm_J} {k : Nat} (hk : k ≤ 21) {r : Int32} {J2 : mm_J} {G2 : mm_G} (h : mm_Ret E qE_carryOut [.ref 0, .int (nI k)] 86 J G (some (.int r)) 86 J2 G2) (hr : r < 0) : mm_Ret E qE_perform [.ref 0, .int (nI k)] 86 J G (some (.int r)) 86 J2 G2 := by
  refine mm_Met.of qE_perform_ok (by decide) (mm_cats rfl) (Nat.le_of_ble_eq_true rfl) ?_
  refine mm_iload_n rfl rfl ?_
  refine mm_if_ltN (tgt := 10) rfl (by decide) (by omega) ?_
  refine mm_iload_n rfl rfl ?_
  refine mm_bipush (v := nI 21) rfl (by decide) ?_
  refine mm_icmp_leN (tgt := 12) rfl (by decide) (by omega) (by omega) (fun h7 => ?_) (fun h7 => ?_)
  · refine mm_aload_n rfl rfl ?_
    refine mm_iload_n rfl rfl ?_
    refine mm_isV1 (M2 := qE_carryOut) wd_294 qE_carryOut_k (by decide) h rfl (by decide) (Nat.le_of_ble_eq_true rfl) (by decide) (by decide) rfl (by decide) ?_
    refine mm_istore_n rfl (by decide) ?_
    refine mm_iload_n rfl rfl ?_
    refine mm_if_lt (tgt := 27) rfl (by decide) (fun h19 => ?_) (fun h19 => ?_)
    · refine mm_iload_n rfl rfl ?_
      refine mm_ireturn rfl rfl rfl (by decide) (by decide) ?_
      exact ⟨rfl, rfl, rfl, rfl⟩
    · exact absurd hr h19
  · exact absurd h7 (by omega)
set_option maxRecDepth 100000 in
set_option maxHeartbeats 400000 in
theorem sE_perform1 {E : mm_E} {G : mm_G} {J : mm_J} {k : Nat} (hk : k ≤ 21) {r : Int32} {J2 : mm_J} {G2 : mm_G} (h : mm_Ret E qE_carryOut [.ref 0, .int (nI k)] 86 J G (some (.int r)) 86 J2 G2) (hr : ¬ r < 0) : mm_Ret E qE_perform [.ref 0, .int (nI k)] 86 J G (some (.int r)) 86 (mm_set (mm_set J2 0 8 (nI k)) 0 7 (nI 1)) G2 := by
  refine mm_Met.of qE_perform_ok (by decide) (mm_cats rfl) (Nat.le_of_ble_eq_true rfl) ?_
  refine mm_iload_n rfl rfl ?_
  refine mm_if_ltN (tgt := 10) rfl (by decide) (by omega) ?_
  refine mm_iload_n rfl rfl ?_
  refine mm_bipush (v := nI 21) rfl (by decide) ?_
  refine mm_icmp_leN (tgt := 12) rfl (by decide) (by omega) (by omega) (fun h7 => ?_) (fun h7 => ?_)
  · refine mm_aload_n rfl rfl ?_
    refine mm_iload_n rfl rfl ?_
    refine mm_isV1 (M2 := qE_carryOut) wd_294 qE_carryOut_k (by decide) h rfl (by decide) (Nat.le_of_ble_eq_true rfl) (by decide) (by decide) rfl (by decide) ?_
    refine mm_istore_n rfl (by decide) ?_
    refine mm_iload_n rfl rfl ?_
    refine mm_if_lt (tgt := 27) rfl (by decide) (fun h19 => ?_) (fun h19 => ?_)
    · exact absurd h19 hr
    · refine mm_aload_n rfl rfl ?_
      refine mm_iload_n rfl rfl ?_
      refine mm_isV1 (M2 := qE_finish) wd_264 qE_finish_k (by decide) sE_finish rfl (by decide) (Nat.le_of_ble_eq_true rfl) (by decide) (by decide) rfl (by decide) ?_
      refine mm_iload_n rfl rfl ?_
      refine mm_ireturn rfl rfl rfl (by decide) (by decide) ?_
      exact ⟨rfl, rfl, rfl, rfl⟩
  · exact absurd h7 (by omega)
def ed_ch (c : Int32) : Prop := ed_ltc c = true ∨ c = nI 32 ∨ c = nI 10
set_option maxRecDepth 100000 in
set_option maxHeartbeats 400000 in
theorem sE_typeX {E : mm_E} {G : mm_G} {J : mm_J} {c : Int32} (h : ¬ ed_ch c) : mm_Ret E qE_type [.ref 0, .int c] 86 J G (some (.int (-1))) 86 J G := by
  refine mm_Met.of qE_type_ok (by decide) (mm_cats rfl) (Nat.le_of_ble_eq_true rfl) ?_
  refine mm_iload_n rfl rfl ?_
  refine mm_isS1 (M2 := qE_isLetter) wd_215 qE_isLetter_k (by decide) sE_isLetter (Nat.le_of_ble_eq_true rfl) (by decide) (by decide) rfl (by decide) ?_
  refine mm_if_neN (tgt := 21) rfl (by decide) (ed_b31 _) (fun h4 => ?_) (fun h4 => ?_)
  · exact absurd (Or.inl (ed_bne h4)) h
  · refine mm_iload_n rfl rfl ?_
    refine mm_bipush (v := nI 32) rfl (by decide) ?_
    refine mm_icmp_eq (tgt := 21) rfl (by decide) (fun h10 => ?_) (fun h10 => ?_)
    · exact absurd (Or.inr (Or.inl h10)) h
    · refine mm_iload_n rfl rfl ?_
      refine mm_bipush (v := nI 10) rfl (by decide) ?_
      refine mm_icmp_eq (tgt := 21) rfl (by decide) (fun h16 => ?_) (fun h16 => ?_)
      · exact absurd (Or.inr (Or.inr h16)) h
      · refine mm_iconst (v := -1) rfl (by decide) ?_
        refine mm_ireturn rfl rfl rfl (by decide) (by decide) ?_
        exact ⟨rfl, rfl, rfl, rfl⟩
set_option maxRecDepth 100000 in
set_option maxHeartbeats 400000 in
theorem sE_type0 {E : mm_E} {G : mm_G} {J : mm_J} (hG : mm_GI G) {c : Int32} (hc : ed_ch c) {r : Int32} {J2 : mm_J} {G2 : mm_G} (h : mm_Ret E qE_insert [.ref 0, .int c] 86 J G (some (.int r)) 86 J2 G2) (hr : r < 0) : mm_Ret E qE_type [.ref 0, .int c] 86 J G (some (.int r)) 86 J2 G2 := by
  refine mm_Met.of qE_type_ok (by decide) (mm_cats rfl) (Nat.le_of_ble_eq_true rfl) ?_
  refine mm_iload_n rfl rfl ?_
  refine mm_isS1 (M2 := qE_isLetter) wd_215 qE_isLetter_k (by decide) sE_isLetter (Nat.le_of_ble_eq_true rfl) (by decide) (by decide) rfl (by decide) ?_
  refine mm_if_neN (tgt := 21) rfl (by decide) (ed_b31 _) (fun h4 => ?_) (fun h4 => ?_)
  · refine mm_aload_n rfl rfl ?_
    refine mm_iload_n rfl rfl ?_
    refine mm_isV1 (M2 := qE_insert) wd_218 qE_insert_k (by decide) h rfl (by decide) (Nat.le_of_ble_eq_true rfl) (by decide) (by decide) rfl (by decide) ?_
    refine mm_istore_n rfl (by decide) ?_
    refine mm_iload_n rfl rfl ?_
    refine mm_if_lt (tgt := 40) rfl (by decide) (fun h28 => ?_) (fun h28 => ?_)
    · refine mm_iload_n rfl rfl ?_
      refine mm_ireturn rfl rfl rfl (by decide) (by decide) ?_
      exact ⟨rfl, rfl, rfl, rfl⟩
    · exact absurd hr h28
  · refine mm_iload_n rfl rfl ?_
    refine mm_bipush (v := nI 32) rfl (by decide) ?_
    refine mm_icmp_eq (tgt := 21) rfl (by decide) (fun h10 => ?_) (fun h10 => ?_)
    · refine mm_aload_n rfl rfl ?_
      refine mm_iload_n rfl rfl ?_
      refine mm_isV1 (M2 := qE_insert) wd_218 qE_insert_k (by decide) h rfl (by decide) (Nat.le_of_ble_eq_true rfl) (by decide) (by decide) rfl (by decide) ?_
      refine mm_istore_n rfl (by decide) ?_
      refine mm_iload_n rfl rfl ?_
      refine mm_if_lt (tgt := 40) rfl (by decide) (fun h28 => ?_) (fun h28 => ?_)
      · refine mm_iload_n rfl rfl ?_
        refine mm_ireturn rfl rfl rfl (by decide) (by decide) ?_
        exact ⟨rfl, rfl, rfl, rfl⟩
      · exact absurd hr h28
    · refine mm_iload_n rfl rfl ?_
      refine mm_bipush (v := nI 10) rfl (by decide) ?_
      refine mm_icmp_eq (tgt := 21) rfl (by decide) (fun h16 => ?_) (fun h16 => ?_)
      · refine mm_aload_n rfl rfl ?_
        refine mm_iload_n rfl rfl ?_
        refine mm_isV1 (M2 := qE_insert) wd_218 qE_insert_k (by decide) h rfl (by decide) (Nat.le_of_ble_eq_true rfl) (by decide) (by decide) rfl (by decide) ?_
        refine mm_istore_n rfl (by decide) ?_
        refine mm_iload_n rfl rfl ?_
        refine mm_if_lt (tgt := 40) rfl (by decide) (fun h28 => ?_) (fun h28 => ?_)
        · refine mm_iload_n rfl rfl ?_
          refine mm_ireturn rfl rfl rfl (by decide) (by decide) ?_
          exact ⟨rfl, rfl, rfl, rfl⟩
        · exact absurd hr h28
      · exact hc.elim (fun e => absurd e (by rw [ed_beq h4]; decide)) (fun e => e.elim (fun e => absurd e h10) (fun e => absurd e h16))
set_option maxRecDepth 100000 in
set_option maxHeartbeats 400000 in
theorem sE_type1 {E : mm_E} {G : mm_G} {J : mm_J} (hG : mm_GI G) {c : Int32} (hc : ed_ch c) {r : Int32} {J2 : mm_J} {G2 : mm_G} (h : mm_Ret E qE_insert [.ref 0, .int c] 86 J G (some (.int r)) 86 J2 G2) (hr : ¬ r < 0) (hG2 : mm_GI G2) {J3 : mm_J} (hno : mm_Ret E qV_note [.ref 63, .int c, .int (nI 1)] 86 J2 G2 none 86 J3 G2) : mm_Ret E qE_type [.ref 0, .int c] 86 J G (some (.int r)) 86 J3 G2 := by
  refine mm_Met.of qE_type_ok (by decide) (mm_cats rfl) (Nat.le_of_ble_eq_true rfl) ?_
  refine mm_iload_n rfl rfl ?_
  refine mm_isS1 (M2 := qE_isLetter) wd_215 qE_isLetter_k (by decide) sE_isLetter (Nat.le_of_ble_eq_true rfl) (by decide) (by decide) rfl (by decide) ?_
  refine mm_if_neN (tgt := 21) rfl (by decide) (ed_b31 _) (fun h4 => ?_) (fun h4 => ?_)
  · refine mm_aload_n rfl rfl ?_
    refine mm_iload_n rfl rfl ?_
    refine mm_isV1 (M2 := qE_insert) wd_218 qE_insert_k (by decide) h rfl (by decide) (Nat.le_of_ble_eq_true rfl) (by decide) (by decide) rfl (by decide) ?_
    refine mm_istore_n rfl (by decide) ?_
    refine mm_iload_n rfl rfl ?_
    refine mm_if_lt (tgt := 40) rfl (by decide) (fun h28 => ?_) (fun h28 => ?_)
    · exact absurd h28 hr
    · refine mm_aload_n rfl rfl ?_
      refine mm_getR rfl rfl rfl (by decide) rfl (mm_gi hG2 0 4 63 (by decide)) ?_
      refine mm_iload_n rfl rfl ?_
      refine mm_iconst (v := nI 1) rfl (by decide) ?_
      refine mm_isV2 (M2 := qV_note) wd_268 qV_note_k (by decide) hno rfl (by decide) (Nat.le_of_ble_eq_true rfl) (by decide) (by decide) rfl (by decide) ?_
      refine mm_iload_n rfl rfl ?_
      refine mm_ireturn rfl rfl rfl (by decide) (by decide) ?_
      exact ⟨rfl, rfl, rfl, rfl⟩
  · refine mm_iload_n rfl rfl ?_
    refine mm_bipush (v := nI 32) rfl (by decide) ?_
    refine mm_icmp_eq (tgt := 21) rfl (by decide) (fun h10 => ?_) (fun h10 => ?_)
    · refine mm_aload_n rfl rfl ?_
      refine mm_iload_n rfl rfl ?_
      refine mm_isV1 (M2 := qE_insert) wd_218 qE_insert_k (by decide) h rfl (by decide) (Nat.le_of_ble_eq_true rfl) (by decide) (by decide) rfl (by decide) ?_
      refine mm_istore_n rfl (by decide) ?_
      refine mm_iload_n rfl rfl ?_
      refine mm_if_lt (tgt := 40) rfl (by decide) (fun h28 => ?_) (fun h28 => ?_)
      · exact absurd h28 hr
      · refine mm_aload_n rfl rfl ?_
        refine mm_getR rfl rfl rfl (by decide) rfl (mm_gi hG2 0 4 63 (by decide)) ?_
        refine mm_iload_n rfl rfl ?_
        refine mm_iconst (v := nI 1) rfl (by decide) ?_
        refine mm_isV2 (M2 := qV_note) wd_268 qV_note_k (by decide) hno rfl (by decide) (Nat.le_of_ble_eq_true rfl) (by decide) (by decide) rfl (by decide) ?_
        refine mm_iload_n rfl rfl ?_
        refine mm_ireturn rfl rfl rfl (by decide) (by decide) ?_
        exact ⟨rfl, rfl, rfl, rfl⟩
    · refine mm_iload_n rfl rfl ?_
      refine mm_bipush (v := nI 10) rfl (by decide) ?_
      refine mm_icmp_eq (tgt := 21) rfl (by decide) (fun h16 => ?_) (fun h16 => ?_)
      · refine mm_aload_n rfl rfl ?_
        refine mm_iload_n rfl rfl ?_
        refine mm_isV1 (M2 := qE_insert) wd_218 qE_insert_k (by decide) h rfl (by decide) (Nat.le_of_ble_eq_true rfl) (by decide) (by decide) rfl (by decide) ?_
        refine mm_istore_n rfl (by decide) ?_
        refine mm_iload_n rfl rfl ?_
        refine mm_if_lt (tgt := 40) rfl (by decide) (fun h28 => ?_) (fun h28 => ?_)
        · exact absurd h28 hr
        · refine mm_aload_n rfl rfl ?_
          refine mm_getR rfl rfl rfl (by decide) rfl (mm_gi hG2 0 4 63 (by decide)) ?_
          refine mm_iload_n rfl rfl ?_
          refine mm_iconst (v := nI 1) rfl (by decide) ?_
          refine mm_isV2 (M2 := qV_note) wd_268 qV_note_k (by decide) hno rfl (by decide) (Nat.le_of_ble_eq_true rfl) (by decide) (by decide) rfl (by decide) ?_
          refine mm_iload_n rfl rfl ?_
          refine mm_ireturn rfl rfl rfl (by decide) (by decide) ?_
          exact ⟨rfl, rfl, rfl, rfl⟩
      · exact hc.elim (fun e => absurd e (by rw [ed_beq h4]; decide)) (fun e => e.elim (fun e => absurd e h10) (fun e => absurd e h16))
set_option maxRecDepth 100000 in
set_option maxHeartbeats 400000 in
theorem sE_commandX {E : mm_E} {G : mm_G} {J : mm_J} {x : Int32} (h : x < 0 ∨ nI 21 < x) : mm_Ret E qE_command [.ref 0, .int x] 86 J G (some (.int (-1))) 86 J G := by
  refine mm_Met.of qE_command_ok (by decide) (mm_cats rfl) (Nat.le_of_ble_eq_true rfl) ?_
  refine mm_iload_n rfl rfl ?_
  refine mm_if_lt (tgt := 10) rfl (by decide) (fun h1 => ?_) (fun h1 => ?_)
  · refine mm_iconst (v := -1) rfl (by decide) ?_
    refine mm_ireturn rfl rfl rfl (by decide) (by decide) ?_
    exact ⟨rfl, rfl, rfl, rfl⟩
  · refine mm_iload_n rfl rfl ?_
    refine mm_bipush (v := nI 21) rfl (by decide) ?_
    refine mm_icmp_le (tgt := 12) rfl (by decide) (fun h7 => ?_) (fun h7 => ?_)
    · exact h.elim (fun q => absurd q h1) (fun q => absurd h7 (Int32.not_le.mpr q))
    · refine mm_iconst (v := -1) rfl (by decide) ?_
      refine mm_ireturn rfl rfl rfl (by decide) (by decide) ?_
      exact ⟨rfl, rfl, rfl, rfl⟩
set_option maxRecDepth 100000 in
set_option maxHeartbeats 400000 in
theorem sE_command21 {E : mm_E} {G : mm_G} {J : mm_J} {r : Int32} {J2 : mm_J} {G2 : mm_G} (h : mm_Ret E qE_replay [.ref 0] 86 J G (some (.int r)) 86 J2 G2) : mm_Ret E qE_command [.ref 0, .int (nI 21)] 86 J G (some (.int r)) 86 J2 G2 := by
  refine mm_Met.of qE_command_ok (by decide) (mm_cats rfl) (Nat.le_of_ble_eq_true rfl) ?_
  refine mm_iload_n rfl rfl ?_
  refine mm_if_ltN (tgt := 10) rfl (by decide) (by omega) ?_
  refine mm_iload_n rfl rfl ?_
  refine mm_bipush (v := nI 21) rfl (by decide) ?_
  refine mm_icmp_leN (tgt := 12) rfl (by decide) (by decide) (by decide) (fun h7 => ?_) (fun h7 => ?_)
  · refine mm_iload_n rfl rfl ?_
    refine mm_bipush (v := nI 21) rfl (by decide) ?_
    refine mm_icmp_neN (tgt := 25) rfl (by decide) (by decide) (by decide) (fun h15 => ?_) (fun h15 => ?_)
    · exact absurd rfl h15
    · refine mm_aload_n rfl rfl ?_
      refine mm_isV0 (M2 := qE_replay) wd_276 qE_replay_k (by decide) h rfl (by decide) (Nat.le_of_ble_eq_true rfl) (by decide) (by decide) rfl (by decide) ?_
      refine mm_goto (tgt := 30) rfl (by decide) ?_
      refine mm_ireturn rfl rfl rfl (by decide) (by decide) ?_
      exact ⟨rfl, rfl, rfl, rfl⟩
  · exact absurd h7 (by decide)
set_option maxRecDepth 100000 in
set_option maxHeartbeats 400000 in
theorem sE_commandP {E : mm_E} {G : mm_G} {J : mm_J} {k : Nat} (hk : k < 21) {r : Int32} {J2 : mm_J} {G2 : mm_G} (h : mm_Ret E qE_perform [.ref 0, .int (nI k)] 86 J G (some (.int r)) 86 J2 G2) : mm_Ret E qE_command [.ref 0, .int (nI k)] 86 J G (some (.int r)) 86 J2 G2 := by
  refine mm_Met.of qE_command_ok (by decide) (mm_cats rfl) (Nat.le_of_ble_eq_true rfl) ?_
  refine mm_iload_n rfl rfl ?_
  refine mm_if_ltN (tgt := 10) rfl (by decide) (by omega) ?_
  refine mm_iload_n rfl rfl ?_
  refine mm_bipush (v := nI 21) rfl (by decide) ?_
  refine mm_icmp_leN (tgt := 12) rfl (by decide) (by omega) (by omega) (fun h7 => ?_) (fun h7 => ?_)
  · refine mm_iload_n rfl rfl ?_
    refine mm_bipush (v := nI 21) rfl (by decide) ?_
    refine mm_icmp_neN (tgt := 25) rfl (by decide) (by omega) (by omega) (fun h15 => ?_) (fun h15 => ?_)
    · refine mm_aload_n rfl rfl ?_
      refine mm_iload_n rfl rfl ?_
      refine mm_isV1 (M2 := qE_perform) wd_290 qE_perform_k (by decide) h rfl (by decide) (Nat.le_of_ble_eq_true rfl) (by decide) (by decide) rfl (by decide) ?_
      refine mm_ireturn rfl rfl rfl (by decide) (by decide) ?_
      exact ⟨rfl, rfl, rfl, rfl⟩
    · exact absurd h15 (by omega)
  · exact absurd h7 (by omega)
set_option maxRecDepth 100000 in
set_option maxHeartbeats 400000 in
theorem sE_pressX {E : mm_E} {G : mm_G} {J : mm_J} {x : Int32} (h : ed_ky x = false) : mm_Ret E qE_press [.ref 0, .int x] 86 J G (some (.int (-1))) 86 J G := by
  refine mm_Met.of qE_press_ok (by decide) (mm_cats rfl) (Nat.le_of_ble_eq_true rfl) ?_
  refine mm_iload_n rfl rfl ?_
  refine mm_isS1 (M2 := qE_isKey) wd_420 qE_isKey_k (by decide) sE_isKey (Nat.le_of_ble_eq_true rfl) (by decide) (by decide) rfl (by decide) ?_
  refine mm_if_neN (tgt := 9) rfl (by decide) (ed_b31 _) (fun h4 => ?_) (fun h4 => ?_)
  · exact absurd (ed_bne h4) (by rw [h]; decide)
  · refine mm_iconst (v := -1) rfl (by decide) ?_
    refine mm_ireturn rfl rfl rfl (by decide) (by decide) ?_
    exact ⟨rfl, rfl, rfl, rfl⟩
set_option maxRecDepth 100000 in
set_option maxHeartbeats 400000 in
theorem sE_press210 {E : mm_E} {G : mm_G} {J : mm_J} (hG : mm_GI G) {x : Int32} (hx : ed_ky x = true) {cal : Int32} {J1 : mm_J} (hs : mm_Ret E qY_stroke [.ref 60, .int x] 86 J G (some (.int cal)) 86 J1 G) {r : Int32} {J2 : mm_J} {G2 : mm_G} (hc : cal = nI 21) (h : mm_Ret E qE_replay [.ref 0] 86 J1 G (some (.int r)) 86 J2 G2) (hr : r < 0) : mm_Ret E qE_press [.ref 0, .int x] 86 J G (some (.int r)) 86 J2 G2 := by
  refine mm_Met.of qE_press_ok (by decide) (mm_cats rfl) (Nat.le_of_ble_eq_true rfl) ?_
  refine mm_iload_n rfl rfl ?_
  refine mm_isS1 (M2 := qE_isKey) wd_420 qE_isKey_k (by decide) sE_isKey (Nat.le_of_ble_eq_true rfl) (by decide) (by decide) rfl (by decide) ?_
  refine mm_if_neN (tgt := 9) rfl (by decide) (ed_b31 _) (fun h4 => ?_) (fun h4 => ?_)
  · refine mm_aload_n rfl rfl ?_
    refine mm_getR rfl rfl rfl (by decide) rfl (mm_gi hG 0 3 60 (by decide)) ?_
    refine mm_iload_n rfl rfl ?_
    refine mm_isV1 (M2 := qY_stroke) wd_280 qY_stroke_k (by decide) hs rfl (by decide) (Nat.le_of_ble_eq_true rfl) (by decide) (by decide) rfl (by decide) ?_
    refine mm_istore_n rfl (by decide) ?_
    refine mm_iload_n rfl rfl ?_
    refine mm_bipush (v := nI 21) rfl (by decide) ?_
    refine mm_icmp_ne (tgt := 31) rfl (by decide) (fun h21 => ?_) (fun h21 => ?_)
    · exact absurd hc h21
    · refine mm_aload_n rfl rfl ?_
      refine mm_isV0 (M2 := qE_replay) wd_276 qE_replay_k (by decide) h rfl (by decide) (Nat.le_of_ble_eq_true rfl) (by decide) (by decide) rfl (by decide) ?_
      refine mm_goto (tgt := 36) rfl (by decide) ?_
      refine mm_istore_n rfl (by decide) ?_
      refine mm_iload_n rfl rfl ?_
      refine mm_if_lt (tgt := 50) rfl (by decide) (fun h38 => ?_) (fun h38 => ?_)
      · refine mm_iload_n rfl rfl ?_
        refine mm_ireturn rfl rfl rfl (by decide) (by decide) ?_
        exact ⟨rfl, rfl, rfl, rfl⟩
      · exact absurd hr h38
  · exact absurd hx (by rw [ed_beq h4]; decide)
set_option maxRecDepth 100000 in
set_option maxHeartbeats 400000 in
theorem sE_press211 {E : mm_E} {G : mm_G} {J : mm_J} (hG : mm_GI G) {x : Int32} (hx : ed_ky x = true) {cal : Int32} {J1 : mm_J} (hs : mm_Ret E qY_stroke [.ref 60, .int x] 86 J G (some (.int cal)) 86 J1 G) {r : Int32} {J2 : mm_J} {G2 : mm_G} (hc : cal = nI 21) (h : mm_Ret E qE_replay [.ref 0] 86 J1 G (some (.int r)) 86 J2 G2) (hr : ¬ r < 0) (hG2 : mm_GI G2) {J3 : mm_J} (hno : mm_Ret E qV_note [.ref 63, .int x, .int (nI 0)] 86 J2 G2 none 86 J3 G2) : mm_Ret E qE_press [.ref 0, .int x] 86 J G (some (.int r)) 86 J3 G2 := by
  refine mm_Met.of qE_press_ok (by decide) (mm_cats rfl) (Nat.le_of_ble_eq_true rfl) ?_
  refine mm_iload_n rfl rfl ?_
  refine mm_isS1 (M2 := qE_isKey) wd_420 qE_isKey_k (by decide) sE_isKey (Nat.le_of_ble_eq_true rfl) (by decide) (by decide) rfl (by decide) ?_
  refine mm_if_neN (tgt := 9) rfl (by decide) (ed_b31 _) (fun h4 => ?_) (fun h4 => ?_)
  · refine mm_aload_n rfl rfl ?_
    refine mm_getR rfl rfl rfl (by decide) rfl (mm_gi hG 0 3 60 (by decide)) ?_
    refine mm_iload_n rfl rfl ?_
    refine mm_isV1 (M2 := qY_stroke) wd_280 qY_stroke_k (by decide) hs rfl (by decide) (Nat.le_of_ble_eq_true rfl) (by decide) (by decide) rfl (by decide) ?_
    refine mm_istore_n rfl (by decide) ?_
    refine mm_iload_n rfl rfl ?_
    refine mm_bipush (v := nI 21) rfl (by decide) ?_
    refine mm_icmp_ne (tgt := 31) rfl (by decide) (fun h21 => ?_) (fun h21 => ?_)
    · exact absurd hc h21
    · refine mm_aload_n rfl rfl ?_
      refine mm_isV0 (M2 := qE_replay) wd_276 qE_replay_k (by decide) h rfl (by decide) (Nat.le_of_ble_eq_true rfl) (by decide) (by decide) rfl (by decide) ?_
      refine mm_goto (tgt := 36) rfl (by decide) ?_
      refine mm_istore_n rfl (by decide) ?_
      refine mm_iload_n rfl rfl ?_
      refine mm_if_lt (tgt := 50) rfl (by decide) (fun h38 => ?_) (fun h38 => ?_)
      · exact absurd h38 hr
      · refine mm_aload_n rfl rfl ?_
        refine mm_getR rfl rfl rfl (by decide) rfl (mm_gi hG2 0 4 63 (by decide)) ?_
        refine mm_iload_n rfl rfl ?_
        refine mm_iconst (v := nI 0) rfl (by decide) ?_
        refine mm_isV2 (M2 := qV_note) wd_268 qV_note_k (by decide) hno rfl (by decide) (Nat.le_of_ble_eq_true rfl) (by decide) (by decide) rfl (by decide) ?_
        refine mm_iload_n rfl rfl ?_
        refine mm_ireturn rfl rfl rfl (by decide) (by decide) ?_
        exact ⟨rfl, rfl, rfl, rfl⟩
  · exact absurd hx (by rw [ed_beq h4]; decide)
set_option maxRecDepth 100000 in
set_option maxHeartbeats 400000 in
theorem sE_pressP0 {E : mm_E} {G : mm_G} {J : mm_J} (hG : mm_GI G) {x : Int32} (hx : ed_ky x = true) {cal : Int32} {J1 : mm_J} (hs : mm_Ret E qY_stroke [.ref 60, .int x] 86 J G (some (.int cal)) 86 J1 G) {r : Int32} {J2 : mm_J} {G2 : mm_G} (hc : ¬ cal = nI 21) (h : mm_Ret E qE_perform [.ref 0, .int cal] 86 J1 G (some (.int r)) 86 J2 G2) (hr : r < 0) : mm_Ret E qE_press [.ref 0, .int x] 86 J G (some (.int r)) 86 J2 G2 := by
  refine mm_Met.of qE_press_ok (by decide) (mm_cats rfl) (Nat.le_of_ble_eq_true rfl) ?_
  refine mm_iload_n rfl rfl ?_
  refine mm_isS1 (M2 := qE_isKey) wd_420 qE_isKey_k (by decide) sE_isKey (Nat.le_of_ble_eq_true rfl) (by decide) (by decide) rfl (by decide) ?_
  refine mm_if_neN (tgt := 9) rfl (by decide) (ed_b31 _) (fun h4 => ?_) (fun h4 => ?_)
  · refine mm_aload_n rfl rfl ?_
    refine mm_getR rfl rfl rfl (by decide) rfl (mm_gi hG 0 3 60 (by decide)) ?_
    refine mm_iload_n rfl rfl ?_
    refine mm_isV1 (M2 := qY_stroke) wd_280 qY_stroke_k (by decide) hs rfl (by decide) (Nat.le_of_ble_eq_true rfl) (by decide) (by decide) rfl (by decide) ?_
    refine mm_istore_n rfl (by decide) ?_
    refine mm_iload_n rfl rfl ?_
    refine mm_bipush (v := nI 21) rfl (by decide) ?_
    refine mm_icmp_ne (tgt := 31) rfl (by decide) (fun h21 => ?_) (fun h21 => ?_)
    · refine mm_aload_n rfl rfl ?_
      refine mm_iload_n rfl rfl ?_
      refine mm_isV1 (M2 := qE_perform) wd_290 qE_perform_k (by decide) h rfl (by decide) (Nat.le_of_ble_eq_true rfl) (by decide) (by decide) rfl (by decide) ?_
      refine mm_istore_n rfl (by decide) ?_
      refine mm_iload_n rfl rfl ?_
      refine mm_if_lt (tgt := 50) rfl (by decide) (fun h38 => ?_) (fun h38 => ?_)
      · refine mm_iload_n rfl rfl ?_
        refine mm_ireturn rfl rfl rfl (by decide) (by decide) ?_
        exact ⟨rfl, rfl, rfl, rfl⟩
      · exact absurd hr h38
    · exact absurd h21 hc
  · exact absurd hx (by rw [ed_beq h4]; decide)
set_option maxRecDepth 100000 in
set_option maxHeartbeats 400000 in
theorem sE_pressP1 {E : mm_E} {G : mm_G} {J : mm_J} (hG : mm_GI G) {x : Int32} (hx : ed_ky x = true) {cal : Int32} {J1 : mm_J} (hs : mm_Ret E qY_stroke [.ref 60, .int x] 86 J G (some (.int cal)) 86 J1 G) {r : Int32} {J2 : mm_J} {G2 : mm_G} (hc : ¬ cal = nI 21) (h : mm_Ret E qE_perform [.ref 0, .int cal] 86 J1 G (some (.int r)) 86 J2 G2) (hr : ¬ r < 0) (hG2 : mm_GI G2) {J3 : mm_J} (hno : mm_Ret E qV_note [.ref 63, .int x, .int (nI 0)] 86 J2 G2 none 86 J3 G2) : mm_Ret E qE_press [.ref 0, .int x] 86 J G (some (.int r)) 86 J3 G2 := by
  refine mm_Met.of qE_press_ok (by decide) (mm_cats rfl) (Nat.le_of_ble_eq_true rfl) ?_
  refine mm_iload_n rfl rfl ?_
  refine mm_isS1 (M2 := qE_isKey) wd_420 qE_isKey_k (by decide) sE_isKey (Nat.le_of_ble_eq_true rfl) (by decide) (by decide) rfl (by decide) ?_
  refine mm_if_neN (tgt := 9) rfl (by decide) (ed_b31 _) (fun h4 => ?_) (fun h4 => ?_)
  · refine mm_aload_n rfl rfl ?_
    refine mm_getR rfl rfl rfl (by decide) rfl (mm_gi hG 0 3 60 (by decide)) ?_
    refine mm_iload_n rfl rfl ?_
    refine mm_isV1 (M2 := qY_stroke) wd_280 qY_stroke_k (by decide) hs rfl (by decide) (Nat.le_of_ble_eq_true rfl) (by decide) (by decide) rfl (by decide) ?_
    refine mm_istore_n rfl (by decide) ?_
    refine mm_iload_n rfl rfl ?_
    refine mm_bipush (v := nI 21) rfl (by decide) ?_
    refine mm_icmp_ne (tgt := 31) rfl (by decide) (fun h21 => ?_) (fun h21 => ?_)
    · refine mm_aload_n rfl rfl ?_
      refine mm_iload_n rfl rfl ?_
      refine mm_isV1 (M2 := qE_perform) wd_290 qE_perform_k (by decide) h rfl (by decide) (Nat.le_of_ble_eq_true rfl) (by decide) (by decide) rfl (by decide) ?_
      refine mm_istore_n rfl (by decide) ?_
      refine mm_iload_n rfl rfl ?_
      refine mm_if_lt (tgt := 50) rfl (by decide) (fun h38 => ?_) (fun h38 => ?_)
      · exact absurd h38 hr
      · refine mm_aload_n rfl rfl ?_
        refine mm_getR rfl rfl rfl (by decide) rfl (mm_gi hG2 0 4 63 (by decide)) ?_
        refine mm_iload_n rfl rfl ?_
        refine mm_iconst (v := nI 0) rfl (by decide) ?_
        refine mm_isV2 (M2 := qV_note) wd_268 qV_note_k (by decide) hno rfl (by decide) (Nat.le_of_ble_eq_true rfl) (by decide) (by decide) rfl (by decide) ?_
        refine mm_iload_n rfl rfl ?_
        refine mm_ireturn rfl rfl rfl (by decide) (by decide) ?_
        exact ⟨rfl, rfl, rfl, rfl⟩
    · exact absurd h21 hc
  · exact absurd hx (by rw [ed_beq h4]; decide)
end
section
theorem mm_cp_s (J : mm_J) {a b : Nat} (sp dp i : Nat) (hab : ¬ a = b) : mm_set (mm_cp J a b sp dp i) b (dp + i) (J a (sp + i)) = mm_cp J a b sp dp (i + 1) := by
  funext x y
  unfold mm_set mm_cp va_cpy
  by_cases hx : x = b
  · subst hx
    by_cases hy : y = dp + i
    · subst hy
      simp
    · by_cases h : dp ≤ y ∧ y < dp + i
      · simp [hy, h, show y < dp + (i + 1) by omega]
      · simp [hy, h, show ¬ (dp ≤ y ∧ y < dp + (i + 1)) by omega]
  · simp [hx]
theorem mm_cp_0 (J : mm_J) (a b sp dp : Nat) : mm_cp J a b sp dp 0 = J := by
  funext x y
  unfold mm_cp va_cpy
  by_cases hx : x = b
  · subst hx
    simp [show ¬ (dp ≤ y ∧ y < dp) by omega]
  · simp [hx]
theorem mm_set_self {J : mm_J} {a k : Nat} {x : Int32} (h : J a k = x) : mm_set J a k x = J := by
  funext i j
  unfold mm_set
  split
  · rename_i q
    rw [q.1, q.2, h]
  · rfl
/-- the reference's text behind an edit, the places below i done -/
def ed_tx (J : mm_J) (p d s i : Nat) : mm_J := fun a b => if a = 70 ∧ p ≤ b ∧ b < i then (if b < p + s then J 72 (b - p) else J 71 (b - s + d)) else J a b
theorem ed_tx_s (J : mm_J) {p d s i : Nat} {x : Int32} (hi : p ≤ i) (hx : x = if i < p + s then J 72 (i - p) else J 71 (i - s + d)) : mm_set (ed_tx J p d s i) 70 i x = ed_tx J p d s (i + 1) := by
  subst hx
  funext a b
  unfold mm_set ed_tx
  by_cases ha : a = 70
  · subst ha
    by_cases hb : b = i
    · subst hb
      simp [hi]
    · by_cases h : p ≤ b ∧ b < i
      · simp [hb, h, show b < i + 1 by omega]
      · simp [hb, h, show ¬ (p ≤ b ∧ b < i + 1) by omega]
  · simp [ha]
theorem ed_tx_0 (J : mm_J) (p d s : Nat) : ed_tx J p d s p = J := by
  funext a b
  simp [ed_tx, show ¬ (p ≤ b ∧ b < p) by omega]
def ed_mk (J : mm_J) (p d s i : Nat) : mm_J := fun a b => if a = 73 ∧ b < i then ed_pm (J 73 b) (J 74 b) p d s else J a b
theorem ed_mk_s (J : mm_J) {p d s i : Nat} {x : Int32} (hx : x = ed_pm (J 73 i) (J 74 i) p d s) : mm_set (ed_mk J p d s i) 73 i x = ed_mk J p d s (i + 1) := by
  subst hx
  funext a b
  unfold mm_set ed_mk
  by_cases ha : a = 73
  · subst ha
    by_cases hb : b = i
    · subst hb
      simp
    · by_cases h : b < i
      · simp [hb, h, Nat.lt_succ_of_lt h]
      · simp [hb, h, show ¬ b < i + 1 by omega]
  · simp [ha]
theorem ed_mk_0 (J : mm_J) (p d s : Nat) : ed_mk J p d s 0 = J := by
  funext a b
  simp [ed_mk]
def ed_Re (J : mm_J) (n p d s : Nat) : mm_J := ed_mk (mm_set (mm_set (ed_tx (mm_cp J 70 71 0 0 n) p d s (n - d + s)) 69 3 (nI (n - d + s))) 69 6 (ed_pm (J 69 6) (nI 0) p d s)) p d s 4
def ed_Rs (J : mm_J) (n m p d s : Nat) : mm_J := mm_set (mm_set (mm_set (mm_set (mm_cp (mm_set J 69 23 (nI (m + 1))) 70 77 0 ((m + 1) % 20 * 100) n) 78 ((m + 1) % 20) (nI n)) 79 ((m + 1) % 20) (nI p)) 80 ((m + 1) % 20) (nI d)) 81 ((m + 1) % 20) (nI s)
theorem ed_pm_n {o : Int32} (fo : Int32) (p d s : Nat) (h : o = -2) : ed_pm o fo p d s = o := by rw [h]; rfl
theorem ed_vp_neg {o : Int32} (h : ed_vp o) (hz : o < 0) : o = -2 := by
  rcases h with h | ⟨m, hm, h⟩
  · exact h
  · rw [h] at hz
    exact absurd hz (nI_pos (by omega))
theorem ed_vp_pos {o : Int32} (h : ed_vp o) (hz : ¬ o < 0) : ∃ m, m ≤ 100 ∧ o = nI m := by
  rcases h with h | h
  · rw [h] at hz
    exact absurd (by decide) hz
  · exact h
set_option maxRecDepth 100000 in
set_option maxHeartbeats 400000 in
theorem sR_moved1 {E : mm_E} {G : mm_G} {J : mm_J} {m fb p d s : Nat} (hm : m ≤ 100) (hfb : fb < 2) (hp : p + d ≤ 100) (hs : s ≤ 100) : mm_Ret E qR_moved [.int (nI m), .int (nI p), .int (nI d), .int (nI s), .int (nI fb)] 86 J G (some (.int (nI (ed_mv m fb p d s)))) 86 J G := by
  refine mm_Met.of qR_moved_ok (by decide) (mm_cats rfl) (Nat.le_of_ble_eq_true rfl) ?_
  refine mm_iload_n rfl rfl ?_
  refine mm_iload_n rfl rfl ?_
  refine mm_icmp_ltN (tgt := 14) rfl (by decide) (by omega) (by omega) (fun h2 => ?_) (fun h2 => ?_)
  · refine mm_iload_n rfl rfl ?_
    refine mm_ireturn rfl rfl rfl (by decide) (by decide) ?_
    exact ⟨by rw [show ed_mv m fb p d s = m from by unfold ed_mv; (repeat' split) <;> omega], rfl, rfl, rfl⟩
  · refine mm_iload_n rfl rfl ?_
    refine mm_iload_n rfl rfl ?_
    refine mm_icmp_neN (tgt := 16) rfl (by decide) (by omega) (by omega) (fun h7 => ?_) (fun h7 => ?_)
    · refine mm_iload_n rfl rfl ?_
      refine mm_iload_n rfl rfl ?_
      refine mm_icmp_neN (tgt := 34) rfl (by decide) (by omega) (by omega) (fun h18 => ?_) (fun h18 => ?_)
      · refine mm_iload_n rfl rfl ?_
        refine mm_iload_n rfl rfl ?_
        refine mm_iload_n rfl rfl ?_
        refine mm_iaddN rfl ?_
        refine mm_icmp_geN (tgt := 45) rfl (by decide) (by omega) (by omega) (fun h38 => ?_) (fun h38 => ?_)
        · refine mm_iload_n rfl rfl ?_
          refine mm_iload_n rfl rfl ?_
          refine mm_iaddN rfl ?_
          refine mm_iload_n rfl rfl ?_
          refine mm_isubN rfl (by omega) ?_
          refine mm_ireturn rfl rfl rfl (by decide) (by decide) ?_
          exact ⟨by rw [show ed_mv m fb p d s = m + s - d from by unfold ed_mv; (repeat' split) <;> omega], rfl, rfl, rfl⟩
        · refine mm_iload_n rfl rfl ?_
          refine mm_goto (tgt := 50) rfl (by decide) ?_
          refine mm_ireturn rfl rfl rfl (by decide) (by decide) ?_
          exact ⟨by rw [show ed_mv m fb p d s = p from by unfold ed_mv; (repeat' split) <;> omega], rfl, rfl, rfl⟩
      · refine mm_iload rfl rfl ?_
        refine mm_if_eqN (tgt := 32) rfl (by decide) (by omega) (fun h23 => ?_) (fun h23 => ?_)
        · refine mm_iload_n rfl rfl ?_
          refine mm_ireturn rfl rfl rfl (by decide) (by decide) ?_
          exact ⟨by rw [show ed_mv m fb p d s = p from by unfold ed_mv; (repeat' split) <;> omega], rfl, rfl, rfl⟩
        · refine mm_iload_n rfl rfl ?_
          refine mm_iload_n rfl rfl ?_
          refine mm_iaddN rfl ?_
          refine mm_goto (tgt := 33) rfl (by decide) ?_
          refine mm_ireturn rfl rfl rfl (by decide) (by decide) ?_
          exact ⟨by rw [show ed_mv m fb p d s = p + s from by unfold ed_mv; (repeat' split) <;> omega], rfl, rfl, rfl⟩
    · refine mm_iload_n rfl rfl ?_
      refine mm_if_leN (tgt := 16) rfl (by decide) (by omega) (fun h11 => ?_) (fun h11 => ?_)
      · refine mm_iload_n rfl rfl ?_
        refine mm_iload_n rfl rfl ?_
        refine mm_icmp_neN (tgt := 34) rfl (by decide) (by omega) (by omega) (fun h18 => ?_) (fun h18 => ?_)
        · refine mm_iload_n rfl rfl ?_
          refine mm_iload_n rfl rfl ?_
          refine mm_iload_n rfl rfl ?_
          refine mm_iaddN rfl ?_
          refine mm_icmp_geN (tgt := 45) rfl (by decide) (by omega) (by omega) (fun h38 => ?_) (fun h38 => ?_)
          · refine mm_iload_n rfl rfl ?_
            refine mm_iload_n rfl rfl ?_
            refine mm_iaddN rfl ?_
            refine mm_iload_n rfl rfl ?_
            refine mm_isubN rfl (by omega) ?_
            refine mm_ireturn rfl rfl rfl (by decide) (by decide) ?_
            exact ⟨by rw [show ed_mv m fb p d s = m + s - d from by unfold ed_mv; (repeat' split) <;> omega], rfl, rfl, rfl⟩
          · refine mm_iload_n rfl rfl ?_
            refine mm_goto (tgt := 50) rfl (by decide) ?_
            refine mm_ireturn rfl rfl rfl (by decide) (by decide) ?_
            exact ⟨by rw [show ed_mv m fb p d s = p from by unfold ed_mv; (repeat' split) <;> omega], rfl, rfl, rfl⟩
        · refine mm_iload rfl rfl ?_
          refine mm_if_eqN (tgt := 32) rfl (by decide) (by omega) (fun h23 => ?_) (fun h23 => ?_)
          · refine mm_iload_n rfl rfl ?_
            refine mm_ireturn rfl rfl rfl (by decide) (by decide) ?_
            exact ⟨by rw [show ed_mv m fb p d s = p from by unfold ed_mv; (repeat' split) <;> omega], rfl, rfl, rfl⟩
          · refine mm_iload_n rfl rfl ?_
            refine mm_iload_n rfl rfl ?_
            refine mm_iaddN rfl ?_
            refine mm_goto (tgt := 33) rfl (by decide) ?_
            refine mm_ireturn rfl rfl rfl (by decide) (by decide) ?_
            exact ⟨by rw [show ed_mv m fb p d s = p + s from by unfold ed_mv; (repeat' split) <;> omega], rfl, rfl, rfl⟩
      · refine mm_iload_n rfl rfl ?_
        refine mm_ireturn rfl rfl rfl (by decide) (by decide) ?_
        exact ⟨by rw [show ed_mv m fb p d s = m from by unfold ed_mv; (repeat' split) <;> omega], rfl, rfl, rfl⟩
theorem sR_moved {E : mm_E} {G : mm_G} {J : mm_J} {o fo : Int32} {p d s : Nat} (ho : ed_vp o) (hz : ¬ o < 0) (hf : ed_vb fo) (hp : p + d ≤ 100) (hs : s ≤ 100) : mm_Ret E qR_moved [.int o, .int (nI p), .int (nI d), .int (nI s), .int fo] 86 J G (some (.int (ed_pm o fo p d s))) 86 J G := by
  obtain ⟨m, hm, rfl⟩ := ed_vp_pos ho hz
  obtain ⟨fb, hfb, rfl⟩ := hf
  rw [show ed_pm (nI m) (nI fb) p d s = nI (ed_mv m fb p d s) from by
    unfold ed_pm
    rw [if_neg (ed_m2n (by omega)), nI_clamp (by omega), nI_clamp (by omega)]]
  exact sR_moved1 hm hfb hp hs
set_option maxRecDepth 100000 in
set_option maxHeartbeats 400000 in
theorem sR_done {E : mm_E} {G : mm_G} {J : mm_J} {c : Int32} : mm_Ret E qR_done [.ref 69, .int c] 86 J G (some (.int (nI 0))) 86 (mm_set (mm_set J 69 8 c) 69 7 (nI 1)) G := by
  refine mm_Met.of qR_done_ok (by decide) (mm_cats rfl) (Nat.le_of_ble_eq_true rfl) ?_
  refine mm_aload_n rfl rfl ?_
  refine mm_iload_n rfl rfl ?_
  refine mm_putI rfl rfl rfl (by decide) rfl (Or.inl rfl) rfl rfl ?_
  refine mm_aload_n rfl rfl ?_
  refine mm_iconst (v := nI 1) rfl (by decide) ?_
  refine mm_putI rfl rfl rfl (by decide) rfl (Or.inl rfl) rfl rfl ?_
  refine mm_iconst (v := nI 0) rfl (by decide) ?_
  refine mm_ireturn rfl rfl rfl (by decide) (by decide) ?_
  exact ⟨rfl, rfl, rfl, rfl⟩
set_option maxRecDepth 100000 in
set_option maxHeartbeats 400000 in
theorem lR_edA {E : mm_E} {G : mm_G} {J : mm_J} (hG : mm_GI G) {n p d s : Nat} {F : mm_F} (hn2 : n ≤ 100) (hpd : p + d ≤ n) (hs3 : n - d + s ≤ 100) (hn : J 69 3 = nI n) (kk : mm_Go E qR_edit 44 [some (.ref 69), some (.int (nI p)), some (.int (nI d)), some (.int (nI (n - d + s))), some (.int (nI n))] [] 86 (mm_cp J 70 71 0 0 n) G 0 0 F) : ∀ (k i : Nat), n - i = k → i ≤ n → mm_Go E qR_edit 15 [some (.ref 69), some (.int (nI p)), some (.int (nI d)), some (.int (nI (n - d + s))), some (.int (nI i))] [] 86 (mm_cp J 70 71 0 0 i) G 0 0 F
  | 0, i, hk, hi => by
    refine mm_iload rfl rfl ?_
    refine mm_aload_n rfl rfl ?_
    refine mm_getI (x := nI n) rfl rfl rfl (by decide) rfl (by simp [mm_cp, hn]) ?_
    refine mm_icmp_geN (tgt := 44) rfl (by decide) (by omega) (by omega) (fun h21 => ?_) (fun h21 => ?_)
    · obtain rfl : n = i := by omega
      exact kk
    · exact absurd h21 (by omega)
  | k + 1, i, hk, hi => by
    refine mm_iload rfl rfl ?_
    refine mm_aload_n rfl rfl ?_
    refine mm_getI (x := nI n) rfl rfl rfl (by decide) rfl (by simp [mm_cp, hn]) ?_
    refine mm_icmp_geN (tgt := 44) rfl (by decide) (by omega) (by omega) (fun h21 => ?_) (fun h21 => ?_)
    · exact absurd h21 (by omega)
    · refine mm_aload_n rfl rfl ?_
      refine mm_getR rfl rfl rfl (by decide) rfl (mm_gi hG 69 1 71 (by decide)) ?_
      refine mm_iload rfl rfl ?_
      refine mm_aload_n rfl rfl ?_
      refine mm_getR rfl rfl rfl (by decide) rfl (mm_gi hG 69 0 70 (by decide)) ?_
      refine mm_iload rfl rfl ?_
      refine mm_rdN (x := J 70 (0 + i)) rfl (by decide) rfl (by decide) (by omega) (by decide) rfl (by simp [mm_cp]) ?_
      refine mm_wrN rfl (by decide) rfl (by decide) (by omega) (by decide) rfl ?_
      refine mm_iincN rfl rfl (mm_inc1 _) (by decide) ?_
      refine mm_goto (tgt := 15) rfl (by decide) ?_
      have e := mm_cp_s J (a := 70) (b := 71) 0 0 i (by decide)
      rw [Nat.zero_add] at e
      rw [Nat.zero_add, e]
      exact lR_edA hG hn2 hpd hs3 hn kk k (i + 1) (by omega) (by omega)
set_option maxRecDepth 100000 in
set_option maxHeartbeats 400000 in
theorem lR_edB {E : mm_E} {G : mm_G} {J : mm_J} (hG : mm_GI G) {n p d s : Nat} {F : mm_F} (hn2 : n ≤ 100) (hpd : p + d ≤ n) (hs3 : n - d + s ≤ 100) (hs : J 69 4 = nI s) (hs2 : s ≤ 100) (kk : mm_Go E qR_edit 103 [some (.ref 69), some (.int (nI p)), some (.int (nI d)), some (.int (nI (n - d + s))), some (.int (nI (n - d + s)))] [] 86 (ed_tx J p d s (n - d + s)) G 0 0 F) : ∀ (k i : Nat), n - d + s - i = k → i ≤ n - d + s → p ≤ i → mm_Go E qR_edit 47 [some (.ref 69), some (.int (nI p)), some (.int (nI d)), some (.int (nI (n - d + s))), some (.int (nI i))] [] 86 (ed_tx J p d s i) G 0 0 F
  | 0, i, hk, hi, hpi => by
    refine mm_iload rfl rfl ?_
    refine mm_iload_n rfl rfl ?_
    refine mm_icmp_geN (tgt := 103) rfl (by decide) (by omega) (by omega) (fun h50 => ?_) (fun h50 => ?_)
    · obtain rfl : n - d + s = i := by omega
      exact kk
    · exact absurd h50 (by omega)
  | k + 1, i, hk, hi, hpi => by
    refine mm_iload rfl rfl ?_
    refine mm_iload_n rfl rfl ?_
    refine mm_icmp_geN (tgt := 103) rfl (by decide) (by omega) (by omega) (fun h50 => ?_) (fun h50 => ?_)
    · exact absurd h50 (by omega)
    · refine mm_aload_n rfl rfl ?_
      refine mm_getR rfl rfl rfl (by decide) rfl (mm_gi hG 69 0 70 (by decide)) ?_
      refine mm_iload rfl rfl ?_
      refine mm_iload rfl rfl ?_
      refine mm_iload_n rfl rfl ?_
      refine mm_aload_n rfl rfl ?_
      refine mm_getI (x := nI s) rfl rfl rfl (by decide) rfl (by simp [ed_tx, hs]) ?_
      refine mm_iaddN rfl ?_
      refine mm_icmp_geN (tgt := 82) rfl (by decide) (by omega) (by omega) (fun h67 => ?_) (fun h67 => ?_)
      · refine mm_aload_n rfl rfl ?_
        refine mm_getR rfl rfl rfl (by decide) rfl (mm_gi hG 69 1 71 (by decide)) ?_
        refine mm_iload rfl rfl ?_
        refine mm_aload_n rfl rfl ?_
        refine mm_getI (x := nI s) rfl rfl rfl (by decide) rfl (by simp [ed_tx, hs]) ?_
        refine mm_isubN rfl (by omega) ?_
        refine mm_iload_n rfl rfl ?_
        refine mm_iaddN rfl ?_
        refine mm_rdN (x := J 71 (i - s + d)) rfl (by decide) rfl (by decide) (by omega) (by decide) rfl (by simp [ed_tx]) ?_
        refine mm_wrN rfl (by decide) rfl (by decide) (by omega) (by decide) rfl ?_
        refine mm_iincN rfl rfl (mm_inc1 _) (by decide) ?_
        refine mm_goto (tgt := 47) rfl (by decide) ?_
        rw [ed_tx_s J hpi (by rw [if_neg (by omega)])]
        exact lR_edB hG hn2 hpd hs3 hs hs2 kk k (i + 1) (by omega) (by omega) (by omega)
      · refine mm_aload_n rfl rfl ?_
        refine mm_getR rfl rfl rfl (by decide) rfl (mm_gi hG 69 2 72 (by decide)) ?_
        refine mm_iload rfl rfl ?_
        refine mm_iload_n rfl rfl ?_
        refine mm_isubN rfl (by omega) ?_
        refine mm_rdN (x := J 72 (i - p)) rfl (by decide) rfl (by decide) (by omega) (by decide) rfl (by simp [ed_tx]) ?_
        refine mm_goto (tgt := 96) rfl (by decide) ?_
        refine mm_wrN rfl (by decide) rfl (by decide) (by omega) (by decide) rfl ?_
        refine mm_iincN rfl rfl (mm_inc1 _) (by decide) ?_
        refine mm_goto (tgt := 47) rfl (by decide) ?_
        rw [ed_tx_s J hpi (by rw [if_pos h67])]
        exact lR_edB hG hn2 hpd hs3 hs hs2 kk k (i + 1) (by omega) (by omega) (by omega)
set_option maxRecDepth 100000 in
set_option maxHeartbeats 400000 in
theorem lR_edC {E : mm_E} {G : mm_G} {J : mm_J} (hG : mm_GI G) {p d s : Nat} {z : Int32} (hpd : p + d ≤ 100) (hs : J 69 4 = nI s) (hs2 : s ≤ 100) (hmk : ∀ i, i < 4 → ed_vp (J 73 i)) (hfo : ∀ i, i < 4 → ed_vb (J 74 i)) : ∀ (k i : Nat), 4 - i = k → i ≤ 4 → mm_Go E qR_edit 136 [some (.ref 69), some (.int (nI p)), some (.int (nI d)), some (.int z), some (.int (nI i))] [] 86 (ed_mk J p d s i) G 0 0 (mm_Fm E qR_edit (mm_is none 86 (ed_mk J p d s 4) G))
  | 0, i, hk, hi => by
    refine mm_iload rfl rfl ?_
    refine mm_iconst (v := nI 4) rfl (by decide) ?_
    refine mm_icmp_geN (tgt := 188) rfl (by decide) (by omega) (by omega) (fun h139 => ?_) (fun h139 => ?_)
    · refine mm_return rfl rfl (by decide) (by decide) ?_
      exact ⟨rfl, rfl, by rw [show i = 4 by omega], rfl⟩
    · exact absurd h139 (by omega)
  | k + 1, i, hk, hi => by
    refine mm_iload rfl rfl ?_
    refine mm_iconst (v := nI 4) rfl (by decide) ?_
    refine mm_icmp_geN (tgt := 188) rfl (by decide) (by omega) (by omega) (fun h139 => ?_) (fun h139 => ?_)
    · exact absurd h139 (by omega)
    · refine mm_aload_n rfl rfl ?_
      refine mm_getR rfl rfl rfl (by decide) rfl (mm_gi hG 69 10 73 (by decide)) ?_
      refine mm_iload rfl rfl ?_
      refine mm_rdN (x := J 73 i) rfl (by decide) rfl (by decide) (by omega) (by decide) rfl (by simp [ed_mk]) ?_
      refine mm_if_lt (tgt := 182) rfl (by decide) (fun h149 => ?_) (fun h149 => ?_)
      · refine mm_iincN rfl rfl (mm_inc1 _) (by decide) ?_
        refine mm_goto (tgt := 136) rfl (by decide) ?_
        refine mm_J_eq (J2 := ed_mk J p d s (i + 1)) ?_ (lR_edC hG hpd hs hs2 hmk hfo k (i + 1) (by omega) (by omega))
        rw [← ed_mk_s J rfl, ed_pm_n _ _ _ _ (ed_vp_neg (hmk i (by omega)) h149)]
        exact (mm_set_self (by simp [ed_mk])).symm
      · refine mm_aload_n rfl rfl ?_
        refine mm_getR rfl rfl rfl (by decide) rfl (mm_gi hG 69 10 73 (by decide)) ?_
        refine mm_iload rfl rfl ?_
        refine mm_aload_n rfl rfl ?_
        refine mm_getR rfl rfl rfl (by decide) rfl (mm_gi hG 69 10 73 (by decide)) ?_
        refine mm_iload rfl rfl ?_
        refine mm_rdN (x := J 73 i) rfl (by decide) rfl (by decide) (by omega) (by decide) rfl (by simp [ed_mk]) ?_
        refine mm_iload_n rfl rfl ?_
        refine mm_iload_n rfl rfl ?_
        refine mm_aload_n rfl rfl ?_
        refine mm_getI (x := nI s) rfl rfl rfl (by decide) rfl (by simp [ed_mk, hs]) ?_
        refine mm_aload_n rfl rfl ?_
        refine mm_getR rfl rfl rfl (by decide) rfl (mm_gi hG 69 11 74 (by decide)) ?_
        refine mm_iload rfl rfl ?_
        refine mm_rzN (x := J 74 i) rfl (by decide) rfl (by decide) (by omega) (by decide) rfl (by simp [ed_mk]) ?_
        refine mm_isS5 (M2 := qR_moved) wd_642 qR_moved_k (by decide) (sR_moved (hmk i (by omega)) h149 (hfo i (by omega)) hpd hs2) (Nat.le_of_ble_eq_true rfl) (by decide) (by decide) rfl (by decide) ?_
        refine mm_wrN rfl (by decide) rfl (by decide) (by omega) (by decide) rfl ?_
        refine mm_iincN rfl rfl (mm_inc1 _) (by decide) ?_
        refine mm_goto (tgt := 136) rfl (by decide) ?_
        rw [ed_mk_s J rfl]
        exact lR_edC hG hpd hs hs2 hmk hfo k (i + 1) (by omega) (by omega)
set_option maxRecDepth 100000 in
set_option maxHeartbeats 400000 in
theorem sR_edit {E : mm_E} {G : mm_G} {J : mm_J} (hG : mm_GI G) {n p d s : Nat} (hn : J 69 3 = nI n) (hn2 : n ≤ 100) (hs : J 69 4 = nI s) (hs2 : s ≤ 100) (hpd : p + d ≤ n) (hs3 : n - d + s ≤ 100) (hmark : ed_vp (J 69 6)) (hmk : ∀ i, i < 4 → ed_vp (J 73 i)) (hfo : ∀ i, i < 4 → ed_vb (J 74 i)) : mm_Ret E qR_edit [.ref 69, .int (nI p), .int (nI d)] 86 J G none 86 (ed_Re J n p d s) G := by
  refine mm_Met.of qR_edit_ok (by decide) (mm_cats rfl) (Nat.le_of_ble_eq_true rfl) ?_
  refine mm_aload_n rfl rfl ?_
  refine mm_getI (x := nI n) rfl rfl rfl (by decide) rfl hn ?_
  refine mm_iload_n rfl rfl ?_
  refine mm_isubN rfl (by omega) ?_
  refine mm_aload_n rfl rfl ?_
  refine mm_getI (x := nI s) rfl rfl rfl (by decide) rfl hs ?_
  refine mm_iaddN rfl ?_
  refine mm_istore_n rfl (by decide) ?_
  refine mm_iconst (v := nI 0) rfl (by decide) ?_
  refine mm_istore rfl (by decide) ?_
  refine mm_J_eq (mm_cp_0 J 70 71 0 0).symm (lR_edA hG hn2 hpd hs3 hn ?_ n 0 rfl (by omega))
  refine mm_iload_n rfl rfl ?_
  refine mm_istore rfl (by decide) ?_
  refine mm_J_eq (ed_tx_0 _ p d s).symm (lR_edB (J := mm_cp J 70 71 0 0 n) hG hn2 hpd hs3 (by simp [mm_cp, hs]) hs2 ?_ (n - d + s - p) p rfl (by omega) (Nat.le_refl p))
  refine mm_aload_n rfl rfl ?_
  refine mm_iload_n rfl rfl ?_
  refine mm_putI rfl rfl rfl (by decide) rfl (Or.inl rfl) rfl rfl ?_
  refine mm_aload_n rfl rfl ?_
  refine mm_getI (x := J 69 6) rfl rfl rfl (by decide) rfl (by simp [mm_set, ed_tx, mm_cp]) ?_
  refine mm_if_lt (tgt := 133) rfl (by decide) (fun h112 => ?_) (fun h112 => ?_)
  · refine mm_iconst (v := nI 0) rfl (by decide) ?_
    refine mm_istore rfl (by decide) ?_
    refine mm_J_eq (J2 := ed_mk (mm_set (mm_set (ed_tx (mm_cp J 70 71 0 0 n) p d s (n - d + s)) 69 3 (nI (n - d + s))) 69 6 (ed_pm (J 69 6) (nI 0) p d s)) p d s 0) ?_ (lR_edC hG (by omega) (by simp [mm_set, ed_tx, mm_cp, hs]) hs2 (fun i hi => by simpa [mm_set, ed_tx, mm_cp] using hmk i hi) (fun i hi => by simpa [mm_set, ed_tx, mm_cp] using hfo i hi) 4 0 rfl (by omega))
    rw [ed_mk_0, ed_pm_n _ _ _ _ (ed_vp_neg hmark h112)]
    exact (mm_set_self (by simp [mm_set, ed_tx, mm_cp])).symm
  · refine mm_aload_n rfl rfl ?_
    refine mm_aload_n rfl rfl ?_
    refine mm_getI (x := J 69 6) rfl rfl rfl (by decide) rfl (by simp [mm_set, ed_tx, mm_cp]) ?_
    refine mm_iload_n rfl rfl ?_
    refine mm_iload_n rfl rfl ?_
    refine mm_aload_n rfl rfl ?_
    refine mm_getI (x := nI s) rfl rfl rfl (by decide) rfl (by simp [mm_set, ed_tx, mm_cp, hs]) ?_
    refine mm_iconst (v := nI 0) rfl (by decide) ?_
    refine mm_isS5 (M2 := qR_moved) wd_642 qR_moved_k (by decide) (sR_moved hmark h112 ⟨0, by decide, rfl⟩ (by omega) hs2) (Nat.le_of_ble_eq_true rfl) (by decide) (by decide) rfl (by decide) ?_
    refine mm_putI rfl rfl rfl (by decide) rfl (Or.inl rfl) rfl rfl ?_
    refine mm_iconst (v := nI 0) rfl (by decide) ?_
    refine mm_istore rfl (by decide) ?_
    refine mm_J_eq (J2 := ed_mk (mm_set (mm_set (ed_tx (mm_cp J 70 71 0 0 n) p d s (n - d + s)) 69 3 (nI (n - d + s))) 69 6 (ed_pm (J 69 6) (nI 0) p d s)) p d s 0) (ed_mk_0 _ _ _ _).symm (lR_edC hG (by omega) (by simp [mm_set, ed_tx, mm_cp, hs]) hs2 (fun i hi => by simpa [mm_set, ed_tx, mm_cp] using hmk i hi) (fun i hi => by simpa [mm_set, ed_tx, mm_cp] using hfo i hi) 4 0 rfl (by omega))
def ed_RI (J : mm_J) (n m s : Nat) : Prop := J 69 3 = nI n ∧ n ≤ 100 ∧ J 69 4 = nI s ∧ s ≤ 100 ∧ ed_vp (J 69 6) ∧ (∀ i, i < 4 → ed_vp (J 73 i)) ∧ (∀ i, i < 4 → ed_vb (J 74 i)) ∧ J 69 23 = nI m ∧ m < 2 ^ 30
set_option maxRecDepth 100000 in
set_option maxHeartbeats 400000 in
theorem lR_step {E : mm_E} {G : mm_G} {J : mm_J} (hG : mm_GI G) {n p d k : Nat} {F : mm_F} (hn : J 69 3 = nI n) (hn2 : n ≤ 100) (hk20 : k < 20) (kk : mm_Go E qR_step 55 [some (.ref 69), some (.int (nI p)), some (.int (nI d)), some (.int (nI k)), some (.int (nI n))] [] 86 (mm_cp J 70 77 0 (k * 100) n) G 0 0 F) : ∀ (q i : Nat), n - i = q → i ≤ n → mm_Go E qR_step 21 [some (.ref 69), some (.int (nI p)), some (.int (nI d)), some (.int (nI k)), some (.int (nI i))] [] 86 (mm_cp J 70 77 0 (k * 100) i) G 0 0 F
  | 0, i, hq, hi => by
    refine mm_iload rfl rfl ?_
    refine mm_aload_n rfl rfl ?_
    refine mm_getI (x := nI n) rfl rfl rfl (by decide) rfl (by simp [mm_cp, hn]) ?_
    refine mm_icmp_geN (tgt := 55) rfl (by decide) (by omega) (by omega) (fun h27 => ?_) (fun h27 => ?_)
    · obtain rfl : n = i := by omega
      exact kk
    · exact absurd h27 (by omega)
  | q + 1, i, hq, hi => by
    refine mm_iload rfl rfl ?_
    refine mm_aload_n rfl rfl ?_
    refine mm_getI (x := nI n) rfl rfl rfl (by decide) rfl (by simp [mm_cp, hn]) ?_
    refine mm_icmp_geN (tgt := 55) rfl (by decide) (by omega) (by omega) (fun h27 => ?_) (fun h27 => ?_)
    · exact absurd h27 (by omega)
    · refine mm_aload_n rfl rfl ?_
      refine mm_getR rfl rfl rfl (by decide) rfl (mm_gi hG 69 18 77 (by decide)) ?_
      refine mm_iload_n rfl rfl ?_
      refine mm_bipush (v := nI 100) rfl (by decide) ?_
      refine mm_imulN rfl ?_
      refine mm_iload rfl rfl ?_
      refine mm_iaddN rfl ?_
      refine mm_aload_n rfl rfl ?_
      refine mm_getR rfl rfl rfl (by decide) rfl (mm_gi hG 69 0 70 (by decide)) ?_
      refine mm_iload rfl rfl ?_
      refine mm_rdN (x := J 70 (0 + i)) rfl (by decide) rfl (by decide) (by omega) (by decide) rfl (by simp [mm_cp]) ?_
      refine mm_wrN rfl (by decide) rfl (by decide) (by omega) (by decide) rfl ?_
      refine mm_iincN rfl rfl (mm_inc1 _) (by decide) ?_
      refine mm_goto (tgt := 21) rfl (by decide) ?_
      rw [mm_cp_s J (a := 70) (b := 77) 0 (k * 100) i (by decide)]
      exact lR_step hG hn hn2 hk20 kk q (i + 1) (by omega) (by omega)
set_option maxRecDepth 100000 in
set_option maxHeartbeats 400000 in
theorem sR_step {E : mm_E} {G : mm_G} {J : mm_J} (hG : mm_GI G) {n m p d s : Nat} (hT : ed_RI J n m s) (hpd : p + d ≤ n) (hs3 : n - d + s ≤ 100) : mm_Ret E qR_step [.ref 69, .int (nI p), .int (nI d)] 86 J G none 86 (ed_Re (ed_Rs J n m p d s) n p d s) G := by
  refine mm_Met.of qR_step_ok (by decide) (mm_cats rfl) (Nat.le_of_ble_eq_true rfl) ?_
  have hn2 := hT.2.1
  have hs2 := hT.2.2.2.1
  have hm2 := hT.2.2.2.2.2.2.2.2
  have hk20 : (m + 1) % 20 < 20 := ed_mod
  refine mm_aload_n rfl rfl ?_
  refine mm_dup rfl rfl ?_
  refine mm_getI (x := nI m) rfl rfl rfl (by decide) rfl hT.2.2.2.2.2.2.2.1 ?_
  refine mm_iconst (v := nI 1) rfl (by decide) ?_
  refine mm_iaddN rfl ?_
  refine mm_putI rfl rfl rfl (by decide) rfl (Or.inl rfl) rfl rfl ?_
  refine mm_aload_n rfl rfl ?_
  refine mm_getI (x := nI (m + 1)) rfl rfl rfl (by decide) rfl (by simp [mm_set]) ?_
  refine mm_bipush (v := nI 20) rfl (by decide) ?_
  refine mm_iremN rfl (by omega) (by omega) (by omega) ?_
  refine mm_istore_n rfl (by decide) ?_
  refine mm_iconst (v := nI 0) rfl (by decide) ?_
  refine mm_istore rfl (by decide) ?_
  refine mm_J_eq (mm_cp_0 _ 70 77 0 ((m + 1) % 20 * 100)).symm (lR_step hG (by simp [mm_set, hT.1]) hn2 hk20 ?_ n 0 rfl (by omega))
  refine mm_aload_n rfl rfl ?_
  refine mm_getR rfl rfl rfl (by decide) rfl (mm_gi hG 69 19 78 (by decide)) ?_
  refine mm_iload_n rfl rfl ?_
  refine mm_aload_n rfl rfl ?_
  refine mm_getI (x := nI n) rfl rfl rfl (by decide) rfl (by simp [mm_set, mm_cp, hT.1]) ?_
  refine mm_wrN rfl (by decide) rfl (by decide) hk20 (by decide) rfl ?_
  refine mm_aload_n rfl rfl ?_
  refine mm_getR rfl rfl rfl (by decide) rfl (mm_gi hG 69 20 79 (by decide)) ?_
  refine mm_iload_n rfl rfl ?_
  refine mm_iload_n rfl rfl ?_
  refine mm_wrN rfl (by decide) rfl (by decide) hk20 (by decide) rfl ?_
  refine mm_aload_n rfl rfl ?_
  refine mm_getR rfl rfl rfl (by decide) rfl (mm_gi hG 69 21 80 (by decide)) ?_
  refine mm_iload_n rfl rfl ?_
  refine mm_iload_n rfl rfl ?_
  refine mm_wrN rfl (by decide) rfl (by decide) hk20 (by decide) rfl ?_
  refine mm_aload_n rfl rfl ?_
  refine mm_getR rfl rfl rfl (by decide) rfl (mm_gi hG 69 22 81 (by decide)) ?_
  refine mm_iload_n rfl rfl ?_
  refine mm_aload_n rfl rfl ?_
  refine mm_getI (x := nI s) rfl rfl rfl (by decide) rfl (by simp [mm_set, mm_cp, hT.2.2.1]) ?_
  refine mm_wrN rfl (by decide) rfl (by decide) hk20 (by decide) rfl ?_
  refine mm_aload_n rfl rfl ?_
  refine mm_iload_n rfl rfl ?_
  refine mm_iload_n rfl rfl ?_
  refine mm_isV2 (M2 := qR_edit) wd_638 qR_edit_k (by decide) (sR_edit (J := ed_Rs J n m p d s) (n := n) (s := s) hG (by simp [ed_Rs, mm_set, mm_cp, hT.1]) hn2 (by simp [ed_Rs, mm_set, mm_cp, hT.2.2.1]) hs2 hpd hs3 (by simpa [ed_Rs, mm_set, mm_cp] using hT.2.2.2.2.1) (fun i hi => by simpa [ed_Rs, mm_set, mm_cp] using hT.2.2.2.2.2.1 i hi) (fun i hi => by simpa [ed_Rs, mm_set, mm_cp] using hT.2.2.2.2.2.2.1 i hi)) rfl (by decide) (Nat.le_of_ble_eq_true rfl) (by decide) (by decide) rfl (by decide) ?_
  refine mm_return rfl rfl (by decide) (by decide) ?_
  exact ⟨rfl, rfl, rfl, rfl⟩
end
section
def ed_RB (J : mm_J) (n m : Nat) : Prop := J 69 3 = nI n ∧ n ≤ 100 ∧ ed_vp (J 69 6) ∧ (∀ i, i < 4 → ed_vp (J 73 i)) ∧ (∀ i, i < 4 → ed_vb (J 74 i)) ∧ J 69 23 = nI m ∧ m < 2 ^ 30
theorem ed_RB.ri {J J1 : mm_J} {n m s : Nat} (h : ed_RB J n m) (e : ∀ k, ¬ k = 4 → J1 69 k = J 69 k) (e73 : J1 73 = J 73) (e74 : J1 74 = J 74) (hs : J1 69 4 = nI s) (hs2 : s ≤ 100) : ed_RI J1 n m s := by
  unfold ed_RI
  rw [e 3 (by decide), e 6 (by decide), e 23 (by decide), e73, e74]
  exact ⟨h.1, h.2.1, hs, hs2, h.2.2.1, h.2.2.2.1, h.2.2.2.2.1, h.2.2.2.2.2.1, h.2.2.2.2.2.2⟩
theorem ed_Re_f {J : mm_J} {n p d s k : Nat} (h : ¬ k = 3 ∧ ¬ k = 6) : ed_Re J n p d s 69 k = J 69 k := by
  simp [ed_Re, ed_mk, ed_tx, mm_set, mm_cp, h.1, h.2]
theorem ed_Re_o {J : mm_J} {n p d s a k : Nat} (h : ¬ a = 69 ∧ ¬ a = 70 ∧ ¬ a = 71 ∧ ¬ a = 73) : ed_Re J n p d s a k = J a k := by
  simp [ed_Re, ed_mk, ed_tx, mm_set, mm_cp, h.1, h.2.1, h.2.2.1, h.2.2.2]
theorem ed_Rs_f {J : mm_J} {n m p d s k : Nat} (h : ¬ k = 23) : ed_Rs J n m p d s 69 k = J 69 k := by
  simp [ed_Rs, mm_set, mm_cp, h]
theorem ed_Rs_o {J : mm_J} {n m p d s a k : Nat} (h : ¬ a = 69 ∧ ¬ (77 ≤ a ∧ a ≤ 81)) : ed_Rs J n m p d s a k = J a k := by
  simp [ed_Rs, mm_set, mm_cp, h.1, show ¬ a = 77 by omega, show ¬ a = 78 by omega, show ¬ a = 79 by omega, show ¬ a = 80 by omega, show ¬ a = 81 by omega]
def ed_RS (J : mm_J) (n m p d s : Nat) : mm_J := ed_Re (ed_Rs J n m p d s) n p d s
theorem ed_RS_f {J : mm_J} {n m p d s k : Nat} (h : ¬ k = 3 ∧ ¬ k = 6 ∧ ¬ k = 23) : ed_RS J n m p d s 69 k = J 69 k := by
  unfold ed_RS
  rw [ed_Re_f (by omega), ed_Rs_f h.2.2]
def ed_fr (J : mm_J) (c : Int32) (i : Nat) : mm_J := fun a b => if a = 72 ∧ b < i then c else J a b
theorem ed_fr_s (J : mm_J) (c : Int32) (i : Nat) : mm_set (ed_fr J c i) 72 i c = ed_fr J c (i + 1) := by
  funext a b
  unfold mm_set ed_fr
  by_cases ha : a = 72
  · subst ha
    by_cases hb : b = i
    · subst hb
      simp
    · by_cases h : b < i
      · simp [hb, h, Nat.lt_succ_of_lt h]
      · simp [hb, h, show ¬ b < i + 1 by omega]
  · simp [ha]
theorem ed_fr_0 (J : mm_J) (c : Int32) : ed_fr J c 0 = J := by
  funext a b
  simp [ed_fr]
theorem ed_at_s (f g : Nat → Int32) (p i : Nat) : ed_at f g p (i + 1) = (ed_at f g p i && decide (f (p + i) = g i)) := by
  unfold ed_at
  rw [Bool.eq_iff_iff]
  simp only [decide_eq_true_eq, Bool.and_eq_true]
  constructor
  · exact fun h => ⟨fun j hj => h j (by omega), h i (by omega)⟩
  · intro h j hj
    rcases Nat.lt_or_eq_of_le (Nat.le_of_lt_succ hj) with e | e
    · exact h.1 j e
    · rw [e]; exact h.2
set_option maxRecDepth 100000 in
set_option maxHeartbeats 400000 in
theorem sR_insertX {E : mm_E} {G : mm_G} {J : mm_J} {c : Int32} (h : ¬ ed_ch c) : mm_Ret E qR_insert [.ref 69, .int c] 86 J G (some (.int (-1))) 86 J G := by
  refine mm_Met.of qR_insert_ok (by decide) (mm_cats rfl) (Nat.le_of_ble_eq_true rfl) ?_
  refine mm_iload_n rfl rfl ?_
  refine mm_isS1 (M2 := qR_letter) wd_635 qR_letter_k (by decide) sR_letter (Nat.le_of_ble_eq_true rfl) (by decide) (by decide) rfl (by decide) ?_
  refine mm_if_neN (tgt := 21) rfl (by decide) (ed_b31 _) (fun h4 => ?_) (fun h4 => ?_)
  · exact absurd (Or.inl (ed_bne h4)) h
  · refine mm_iload_n rfl rfl ?_
    refine mm_bipush (v := nI 32) rfl (by decide) ?_
    refine mm_icmp_eq (tgt := 21) rfl (by decide) (fun h10 => ?_) (fun h10 => ?_)
    · exact absurd (Or.inr (Or.inl h10)) h
    · refine mm_iload_n rfl rfl ?_
      refine mm_bipush (v := nI 10) rfl (by decide) ?_
      refine mm_icmp_eq (tgt := 21) rfl (by decide) (fun h16 => ?_) (fun h16 => ?_)
      · exact absurd (Or.inr (Or.inr h16)) h
      · refine mm_iconst (v := -1) rfl (by decide) ?_
        refine mm_ireturn rfl rfl rfl (by decide) (by decide) ?_
        exact ⟨rfl, rfl, rfl, rfl⟩
set_option maxRecDepth 100000 in
set_option maxHeartbeats 400000 in
theorem lR_insert {E : mm_E} {G : mm_G} {J : mm_J} (hG : mm_GI G) {t : Nat} {c : Int32} {F : mm_F} (ht : J 69 7 = nI t) (ht9 : t ≤ 9) (kk : mm_Go E qR_insert 69 [some (.ref 69), some (.int c), some (.int (nI t))] [] 86 (ed_fr J c t) G 0 0 F) : ∀ (k i : Nat), t - i = k → i ≤ t → mm_Go E qR_insert 48 [some (.ref 69), some (.int c), some (.int (nI i))] [] 86 (ed_fr J c i) G 0 0 F
  | 0, i, hk, hi => by
    refine mm_iload_n rfl rfl ?_
    refine mm_aload_n rfl rfl ?_
    refine mm_getI (x := nI t) rfl rfl rfl (by decide) rfl (by simp [ed_fr, ht]) ?_
    refine mm_icmp_geN (tgt := 69) rfl (by decide) (by omega) (by omega) (fun h53 => ?_) (fun h53 => ?_)
    · obtain rfl : t = i := by omega
      exact kk
    · exact absurd h53 (by omega)
  | k + 1, i, hk, hi => by
    refine mm_iload_n rfl rfl ?_
    refine mm_aload_n rfl rfl ?_
    refine mm_getI (x := nI t) rfl rfl rfl (by decide) rfl (by simp [ed_fr, ht]) ?_
    refine mm_icmp_geN (tgt := 69) rfl (by decide) (by omega) (by omega) (fun h53 => ?_) (fun h53 => ?_)
    · exact absurd h53 (by omega)
    · refine mm_aload_n rfl rfl ?_
      refine mm_getR rfl rfl rfl (by decide) rfl (mm_gi hG 69 2 72 (by decide)) ?_
      refine mm_iload_n rfl rfl ?_
      refine mm_iload_n rfl rfl ?_
      refine mm_wrN rfl (by decide) rfl (by decide) (by omega) (by decide) rfl ?_
      refine mm_iincN rfl rfl (mm_inc1 _) (by decide) ?_
      refine mm_goto (tgt := 48) rfl (by decide) ?_
      rw [ed_fr_s]
      exact lR_insert hG ht ht9 kk k (i + 1) (by omega) (by omega)
set_option maxRecDepth 100000 in
set_option maxHeartbeats 400000 in
theorem sR_insert0 {E : mm_E} {G : mm_G} {J : mm_J} (hG : mm_GI G) {n m : Nat} (hT : ed_RB J n m) {q t : Nat} {c : Int32} (hch : ed_ch c) (ht : J 69 7 = nI t) (ht9 : t ≤ 9) (hp : J 69 5 = nI q) (hq : q ≤ n) (h : 100 < n + t) : mm_Ret E qR_insert [.ref 69, .int c] 86 J G (some (.int (-3))) 86 J G := by
  refine mm_Met.of qR_insert_ok (by decide) (mm_cats rfl) (Nat.le_of_ble_eq_true rfl) ?_
  have hn2 := hT.2.1
  have hm2 := hT.2.2.2.2.2.2
  refine mm_iload_n rfl rfl ?_
  refine mm_isS1 (M2 := qR_letter) wd_635 qR_letter_k (by decide) sR_letter (Nat.le_of_ble_eq_true rfl) (by decide) (by decide) rfl (by decide) ?_
  refine mm_if_neN (tgt := 21) rfl (by decide) (ed_b31 _) (fun h4 => ?_) (fun h4 => ?_)
  · refine mm_aload_n rfl rfl ?_
    refine mm_getI (x := nI n) rfl rfl rfl (by decide) rfl hT.1 ?_
    refine mm_aload_n rfl rfl ?_
    refine mm_getI (x := nI t) rfl rfl rfl (by decide) rfl ht ?_
    refine mm_iaddN rfl ?_
    refine mm_bipush (v := nI 100) rfl (by decide) ?_
    refine mm_icmp_leN (tgt := 38) rfl (by decide) (by omega) (by omega) (fun h32 => ?_) (fun h32 => ?_)
    · exact absurd h32 (by omega)
    · refine mm_bipush (v := -3) rfl (by decide) ?_
      refine mm_ireturn rfl rfl rfl (by decide) (by decide) ?_
      exact ⟨rfl, rfl, rfl, rfl⟩
  · refine mm_iload_n rfl rfl ?_
    refine mm_bipush (v := nI 32) rfl (by decide) ?_
    refine mm_icmp_eq (tgt := 21) rfl (by decide) (fun h10 => ?_) (fun h10 => ?_)
    · refine mm_aload_n rfl rfl ?_
      refine mm_getI (x := nI n) rfl rfl rfl (by decide) rfl hT.1 ?_
      refine mm_aload_n rfl rfl ?_
      refine mm_getI (x := nI t) rfl rfl rfl (by decide) rfl ht ?_
      refine mm_iaddN rfl ?_
      refine mm_bipush (v := nI 100) rfl (by decide) ?_
      refine mm_icmp_leN (tgt := 38) rfl (by decide) (by omega) (by omega) (fun h32 => ?_) (fun h32 => ?_)
      · exact absurd h32 (by omega)
      · refine mm_bipush (v := -3) rfl (by decide) ?_
        refine mm_ireturn rfl rfl rfl (by decide) (by decide) ?_
        exact ⟨rfl, rfl, rfl, rfl⟩
    · refine mm_iload_n rfl rfl ?_
      refine mm_bipush (v := nI 10) rfl (by decide) ?_
      refine mm_icmp_eq (tgt := 21) rfl (by decide) (fun h16 => ?_) (fun h16 => ?_)
      · refine mm_aload_n rfl rfl ?_
        refine mm_getI (x := nI n) rfl rfl rfl (by decide) rfl hT.1 ?_
        refine mm_aload_n rfl rfl ?_
        refine mm_getI (x := nI t) rfl rfl rfl (by decide) rfl ht ?_
        refine mm_iaddN rfl ?_
        refine mm_bipush (v := nI 100) rfl (by decide) ?_
        refine mm_icmp_leN (tgt := 38) rfl (by decide) (by omega) (by omega) (fun h32 => ?_) (fun h32 => ?_)
        · exact absurd h32 (by omega)
        · refine mm_bipush (v := -3) rfl (by decide) ?_
          refine mm_ireturn rfl rfl rfl (by decide) (by decide) ?_
          exact ⟨rfl, rfl, rfl, rfl⟩
      · exact hch.elim (fun e => absurd e (by rw [ed_beq h4]; decide)) (fun e => e.elim (fun e => absurd e h10) (fun e => absurd e h16))
set_option maxRecDepth 100000 in
set_option maxHeartbeats 400000 in
theorem sR_insert1 {E : mm_E} {G : mm_G} {J : mm_J} (hG : mm_GI G) {n m : Nat} (hT : ed_RB J n m) {q t : Nat} {c : Int32} (hch : ed_ch c) (ht : J 69 7 = nI t) (ht9 : t ≤ 9) (hp : J 69 5 = nI q) (hq : q ≤ n) {u : Nat} (hu : J 69 8 = nI 100 → J 81 (m % 20) = nI u) (hu2 : u ≤ 100) (h : n + t ≤ 100) (hj : ¬ (J 69 8 = nI 100 ∧ u ≤ 7)) : mm_Ret E qR_insert [.ref 69, .int c] 86 J G (some (.int (nI 0))) 86 (mm_set (mm_set (mm_set (ed_RS (ed_fr (mm_set J 69 4 (nI t)) c t) n m q 0 t) 69 5 (nI (q + t))) 69 8 (nI 100)) 69 7 (nI 1)) G := by
  refine mm_Met.of qR_insert_ok (by decide) (mm_cats rfl) (Nat.le_of_ble_eq_true rfl) ?_
  have hn2 := hT.2.1
  have hm2 := hT.2.2.2.2.2.2
  refine mm_iload_n rfl rfl ?_
  refine mm_isS1 (M2 := qR_letter) wd_635 qR_letter_k (by decide) sR_letter (Nat.le_of_ble_eq_true rfl) (by decide) (by decide) rfl (by decide) ?_
  refine mm_if_neN (tgt := 21) rfl (by decide) (ed_b31 _) (fun h4 => ?_) (fun h4 => ?_)
  · refine mm_aload_n rfl rfl ?_
    refine mm_getI (x := nI n) rfl rfl rfl (by decide) rfl hT.1 ?_
    refine mm_aload_n rfl rfl ?_
    refine mm_getI (x := nI t) rfl rfl rfl (by decide) rfl ht ?_
    refine mm_iaddN rfl ?_
    refine mm_bipush (v := nI 100) rfl (by decide) ?_
    refine mm_icmp_leN (tgt := 38) rfl (by decide) (by omega) (by omega) (fun h32 => ?_) (fun h32 => ?_)
    · refine mm_aload_n rfl rfl ?_
      refine mm_aload_n rfl rfl ?_
      refine mm_getI (x := nI t) rfl rfl rfl (by decide) rfl ht ?_
      refine mm_putI rfl rfl rfl (by decide) rfl (Or.inl rfl) rfl rfl ?_
      refine mm_iconst (v := nI 0) rfl (by decide) ?_
      refine mm_istore_n rfl (by decide) ?_
      refine mm_J_eq (ed_fr_0 _ c).symm (lR_insert (J := mm_set J 69 4 (nI t)) hG (by simp [mm_set, ht]) ht9 ?_ t 0 rfl (by omega))
      refine mm_aload_n rfl rfl ?_
      refine mm_getI (x := J 69 8) rfl rfl rfl (by decide) rfl (by simp [ed_fr, mm_set]) ?_
      refine mm_bipush (v := nI 100) rfl (by decide) ?_
      refine mm_icmp_ne (tgt := 126) rfl (by decide) (fun h75 => ?_) (fun h75 => ?_)
      · refine mm_aload_n rfl rfl ?_
        refine mm_aload_n rfl rfl ?_
        refine mm_getI (x := nI q) rfl rfl rfl (by decide) rfl (by simp [ed_fr, mm_set, hp]) ?_
        refine mm_iconst (v := nI 0) rfl (by decide) ?_
        refine mm_isV2 (M2 := qR_step) wd_645 qR_step_k (by decide) (sR_step (J := (ed_fr (mm_set J 69 4 (nI t)) c t)) hG (hT.ri (J1 := (ed_fr (mm_set J 69 4 (nI t)) c t)) (s := t) (fun k hk => by simp [ed_fr, mm_set, hk]) rfl rfl (by simp [ed_fr, mm_set]) (by omega)) (by omega) (by omega)) rfl (by decide) (Nat.le_of_ble_eq_true rfl) (by decide) (by decide) rfl (by decide) ?_
        refine mm_aload_n rfl rfl ?_
        refine mm_dup rfl rfl ?_
        refine mm_getI (x := nI q) rfl rfl rfl (by decide) rfl ((ed_RS_f (by decide)).trans (by simp [ed_fr, mm_set, hp])) ?_
        refine mm_aload_n rfl rfl ?_
        refine mm_getI (x := nI t) rfl rfl rfl (by decide) rfl ((ed_RS_f (by decide)).trans (by simp [ed_fr, mm_set, ht])) ?_
        refine mm_iaddN rfl ?_
        refine mm_putI rfl rfl rfl (by decide) rfl (Or.inl rfl) rfl rfl ?_
        refine mm_aload_n rfl rfl ?_
        refine mm_bipush (v := nI 100) rfl (by decide) ?_
        refine mm_isV1 (M2 := qR_done) wd_649 qR_done_k (by decide) sR_done rfl (by decide) (Nat.le_of_ble_eq_true rfl) (by decide) (by decide) rfl (by decide) ?_
        refine mm_ireturn rfl rfl rfl (by decide) (by decide) ?_
        exact ⟨rfl, rfl, rfl, rfl⟩
      · refine mm_aload_n rfl rfl ?_
        refine mm_getR rfl rfl rfl (by decide) rfl (mm_gi hG 69 22 81 (by decide)) ?_
        refine mm_aload_n rfl rfl ?_
        refine mm_getI (x := nI m) rfl rfl rfl (by decide) rfl (by simp [ed_fr, mm_set, hT.2.2.2.2.2.1]) ?_
        refine mm_bipush (v := nI 20) rfl (by decide) ?_
        refine mm_iremN rfl (by omega) (by omega) (by omega) ?_
        refine mm_rdN (x := nI u) rfl (by decide) rfl (by decide) ed_mod (by decide) rfl (by simp [ed_fr, mm_set]; exact hu h75) ?_
        refine mm_bipush (v := nI 7) rfl (by decide) ?_
        refine mm_icmp_gtN (tgt := 126) rfl (by decide) (by omega) (by omega) (fun h92 => ?_) (fun h92 => ?_)
        · refine mm_aload_n rfl rfl ?_
          refine mm_aload_n rfl rfl ?_
          refine mm_getI (x := nI q) rfl rfl rfl (by decide) rfl (by simp [ed_fr, mm_set, hp]) ?_
          refine mm_iconst (v := nI 0) rfl (by decide) ?_
          refine mm_isV2 (M2 := qR_step) wd_645 qR_step_k (by decide) (sR_step (J := (ed_fr (mm_set J 69 4 (nI t)) c t)) hG (hT.ri (J1 := (ed_fr (mm_set J 69 4 (nI t)) c t)) (s := t) (fun k hk => by simp [ed_fr, mm_set, hk]) rfl rfl (by simp [ed_fr, mm_set]) (by omega)) (by omega) (by omega)) rfl (by decide) (Nat.le_of_ble_eq_true rfl) (by decide) (by decide) rfl (by decide) ?_
          refine mm_aload_n rfl rfl ?_
          refine mm_dup rfl rfl ?_
          refine mm_getI (x := nI q) rfl rfl rfl (by decide) rfl ((ed_RS_f (by decide)).trans (by simp [ed_fr, mm_set, hp])) ?_
          refine mm_aload_n rfl rfl ?_
          refine mm_getI (x := nI t) rfl rfl rfl (by decide) rfl ((ed_RS_f (by decide)).trans (by simp [ed_fr, mm_set, ht])) ?_
          refine mm_iaddN rfl ?_
          refine mm_putI rfl rfl rfl (by decide) rfl (Or.inl rfl) rfl rfl ?_
          refine mm_aload_n rfl rfl ?_
          refine mm_bipush (v := nI 100) rfl (by decide) ?_
          refine mm_isV1 (M2 := qR_done) wd_649 qR_done_k (by decide) sR_done rfl (by decide) (Nat.le_of_ble_eq_true rfl) (by decide) (by decide) rfl (by decide) ?_
          refine mm_ireturn rfl rfl rfl (by decide) (by decide) ?_
          exact ⟨rfl, rfl, rfl, rfl⟩
        · exact absurd ⟨h75, by omega⟩ hj
    · exact absurd h32 (by omega)
  · refine mm_iload_n rfl rfl ?_
    refine mm_bipush (v := nI 32) rfl (by decide) ?_
    refine mm_icmp_eq (tgt := 21) rfl (by decide) (fun h10 => ?_) (fun h10 => ?_)
    · refine mm_aload_n rfl rfl ?_
      refine mm_getI (x := nI n) rfl rfl rfl (by decide) rfl hT.1 ?_
      refine mm_aload_n rfl rfl ?_
      refine mm_getI (x := nI t) rfl rfl rfl (by decide) rfl ht ?_
      refine mm_iaddN rfl ?_
      refine mm_bipush (v := nI 100) rfl (by decide) ?_
      refine mm_icmp_leN (tgt := 38) rfl (by decide) (by omega) (by omega) (fun h32 => ?_) (fun h32 => ?_)
      · refine mm_aload_n rfl rfl ?_
        refine mm_aload_n rfl rfl ?_
        refine mm_getI (x := nI t) rfl rfl rfl (by decide) rfl ht ?_
        refine mm_putI rfl rfl rfl (by decide) rfl (Or.inl rfl) rfl rfl ?_
        refine mm_iconst (v := nI 0) rfl (by decide) ?_
        refine mm_istore_n rfl (by decide) ?_
        refine mm_J_eq (ed_fr_0 _ c).symm (lR_insert (J := mm_set J 69 4 (nI t)) hG (by simp [mm_set, ht]) ht9 ?_ t 0 rfl (by omega))
        refine mm_aload_n rfl rfl ?_
        refine mm_getI (x := J 69 8) rfl rfl rfl (by decide) rfl (by simp [ed_fr, mm_set]) ?_
        refine mm_bipush (v := nI 100) rfl (by decide) ?_
        refine mm_icmp_ne (tgt := 126) rfl (by decide) (fun h75 => ?_) (fun h75 => ?_)
        · refine mm_aload_n rfl rfl ?_
          refine mm_aload_n rfl rfl ?_
          refine mm_getI (x := nI q) rfl rfl rfl (by decide) rfl (by simp [ed_fr, mm_set, hp]) ?_
          refine mm_iconst (v := nI 0) rfl (by decide) ?_
          refine mm_isV2 (M2 := qR_step) wd_645 qR_step_k (by decide) (sR_step (J := (ed_fr (mm_set J 69 4 (nI t)) c t)) hG (hT.ri (J1 := (ed_fr (mm_set J 69 4 (nI t)) c t)) (s := t) (fun k hk => by simp [ed_fr, mm_set, hk]) rfl rfl (by simp [ed_fr, mm_set]) (by omega)) (by omega) (by omega)) rfl (by decide) (Nat.le_of_ble_eq_true rfl) (by decide) (by decide) rfl (by decide) ?_
          refine mm_aload_n rfl rfl ?_
          refine mm_dup rfl rfl ?_
          refine mm_getI (x := nI q) rfl rfl rfl (by decide) rfl ((ed_RS_f (by decide)).trans (by simp [ed_fr, mm_set, hp])) ?_
          refine mm_aload_n rfl rfl ?_
          refine mm_getI (x := nI t) rfl rfl rfl (by decide) rfl ((ed_RS_f (by decide)).trans (by simp [ed_fr, mm_set, ht])) ?_
          refine mm_iaddN rfl ?_
          refine mm_putI rfl rfl rfl (by decide) rfl (Or.inl rfl) rfl rfl ?_
          refine mm_aload_n rfl rfl ?_
          refine mm_bipush (v := nI 100) rfl (by decide) ?_
          refine mm_isV1 (M2 := qR_done) wd_649 qR_done_k (by decide) sR_done rfl (by decide) (Nat.le_of_ble_eq_true rfl) (by decide) (by decide) rfl (by decide) ?_
          refine mm_ireturn rfl rfl rfl (by decide) (by decide) ?_
          exact ⟨rfl, rfl, rfl, rfl⟩
        · refine mm_aload_n rfl rfl ?_
          refine mm_getR rfl rfl rfl (by decide) rfl (mm_gi hG 69 22 81 (by decide)) ?_
          refine mm_aload_n rfl rfl ?_
          refine mm_getI (x := nI m) rfl rfl rfl (by decide) rfl (by simp [ed_fr, mm_set, hT.2.2.2.2.2.1]) ?_
          refine mm_bipush (v := nI 20) rfl (by decide) ?_
          refine mm_iremN rfl (by omega) (by omega) (by omega) ?_
          refine mm_rdN (x := nI u) rfl (by decide) rfl (by decide) ed_mod (by decide) rfl (by simp [ed_fr, mm_set]; exact hu h75) ?_
          refine mm_bipush (v := nI 7) rfl (by decide) ?_
          refine mm_icmp_gtN (tgt := 126) rfl (by decide) (by omega) (by omega) (fun h92 => ?_) (fun h92 => ?_)
          · refine mm_aload_n rfl rfl ?_
            refine mm_aload_n rfl rfl ?_
            refine mm_getI (x := nI q) rfl rfl rfl (by decide) rfl (by simp [ed_fr, mm_set, hp]) ?_
            refine mm_iconst (v := nI 0) rfl (by decide) ?_
            refine mm_isV2 (M2 := qR_step) wd_645 qR_step_k (by decide) (sR_step (J := (ed_fr (mm_set J 69 4 (nI t)) c t)) hG (hT.ri (J1 := (ed_fr (mm_set J 69 4 (nI t)) c t)) (s := t) (fun k hk => by simp [ed_fr, mm_set, hk]) rfl rfl (by simp [ed_fr, mm_set]) (by omega)) (by omega) (by omega)) rfl (by decide) (Nat.le_of_ble_eq_true rfl) (by decide) (by decide) rfl (by decide) ?_
            refine mm_aload_n rfl rfl ?_
            refine mm_dup rfl rfl ?_
            refine mm_getI (x := nI q) rfl rfl rfl (by decide) rfl ((ed_RS_f (by decide)).trans (by simp [ed_fr, mm_set, hp])) ?_
            refine mm_aload_n rfl rfl ?_
            refine mm_getI (x := nI t) rfl rfl rfl (by decide) rfl ((ed_RS_f (by decide)).trans (by simp [ed_fr, mm_set, ht])) ?_
            refine mm_iaddN rfl ?_
            refine mm_putI rfl rfl rfl (by decide) rfl (Or.inl rfl) rfl rfl ?_
            refine mm_aload_n rfl rfl ?_
            refine mm_bipush (v := nI 100) rfl (by decide) ?_
            refine mm_isV1 (M2 := qR_done) wd_649 qR_done_k (by decide) sR_done rfl (by decide) (Nat.le_of_ble_eq_true rfl) (by decide) (by decide) rfl (by decide) ?_
            refine mm_ireturn rfl rfl rfl (by decide) (by decide) ?_
            exact ⟨rfl, rfl, rfl, rfl⟩
          · exact absurd ⟨h75, by omega⟩ hj
      · exact absurd h32 (by omega)
    · refine mm_iload_n rfl rfl ?_
      refine mm_bipush (v := nI 10) rfl (by decide) ?_
      refine mm_icmp_eq (tgt := 21) rfl (by decide) (fun h16 => ?_) (fun h16 => ?_)
      · refine mm_aload_n rfl rfl ?_
        refine mm_getI (x := nI n) rfl rfl rfl (by decide) rfl hT.1 ?_
        refine mm_aload_n rfl rfl ?_
        refine mm_getI (x := nI t) rfl rfl rfl (by decide) rfl ht ?_
        refine mm_iaddN rfl ?_
        refine mm_bipush (v := nI 100) rfl (by decide) ?_
        refine mm_icmp_leN (tgt := 38) rfl (by decide) (by omega) (by omega) (fun h32 => ?_) (fun h32 => ?_)
        · refine mm_aload_n rfl rfl ?_
          refine mm_aload_n rfl rfl ?_
          refine mm_getI (x := nI t) rfl rfl rfl (by decide) rfl ht ?_
          refine mm_putI rfl rfl rfl (by decide) rfl (Or.inl rfl) rfl rfl ?_
          refine mm_iconst (v := nI 0) rfl (by decide) ?_
          refine mm_istore_n rfl (by decide) ?_
          refine mm_J_eq (ed_fr_0 _ c).symm (lR_insert (J := mm_set J 69 4 (nI t)) hG (by simp [mm_set, ht]) ht9 ?_ t 0 rfl (by omega))
          refine mm_aload_n rfl rfl ?_
          refine mm_getI (x := J 69 8) rfl rfl rfl (by decide) rfl (by simp [ed_fr, mm_set]) ?_
          refine mm_bipush (v := nI 100) rfl (by decide) ?_
          refine mm_icmp_ne (tgt := 126) rfl (by decide) (fun h75 => ?_) (fun h75 => ?_)
          · refine mm_aload_n rfl rfl ?_
            refine mm_aload_n rfl rfl ?_
            refine mm_getI (x := nI q) rfl rfl rfl (by decide) rfl (by simp [ed_fr, mm_set, hp]) ?_
            refine mm_iconst (v := nI 0) rfl (by decide) ?_
            refine mm_isV2 (M2 := qR_step) wd_645 qR_step_k (by decide) (sR_step (J := (ed_fr (mm_set J 69 4 (nI t)) c t)) hG (hT.ri (J1 := (ed_fr (mm_set J 69 4 (nI t)) c t)) (s := t) (fun k hk => by simp [ed_fr, mm_set, hk]) rfl rfl (by simp [ed_fr, mm_set]) (by omega)) (by omega) (by omega)) rfl (by decide) (Nat.le_of_ble_eq_true rfl) (by decide) (by decide) rfl (by decide) ?_
            refine mm_aload_n rfl rfl ?_
            refine mm_dup rfl rfl ?_
            refine mm_getI (x := nI q) rfl rfl rfl (by decide) rfl ((ed_RS_f (by decide)).trans (by simp [ed_fr, mm_set, hp])) ?_
            refine mm_aload_n rfl rfl ?_
            refine mm_getI (x := nI t) rfl rfl rfl (by decide) rfl ((ed_RS_f (by decide)).trans (by simp [ed_fr, mm_set, ht])) ?_
            refine mm_iaddN rfl ?_
            refine mm_putI rfl rfl rfl (by decide) rfl (Or.inl rfl) rfl rfl ?_
            refine mm_aload_n rfl rfl ?_
            refine mm_bipush (v := nI 100) rfl (by decide) ?_
            refine mm_isV1 (M2 := qR_done) wd_649 qR_done_k (by decide) sR_done rfl (by decide) (Nat.le_of_ble_eq_true rfl) (by decide) (by decide) rfl (by decide) ?_
            refine mm_ireturn rfl rfl rfl (by decide) (by decide) ?_
            exact ⟨rfl, rfl, rfl, rfl⟩
          · refine mm_aload_n rfl rfl ?_
            refine mm_getR rfl rfl rfl (by decide) rfl (mm_gi hG 69 22 81 (by decide)) ?_
            refine mm_aload_n rfl rfl ?_
            refine mm_getI (x := nI m) rfl rfl rfl (by decide) rfl (by simp [ed_fr, mm_set, hT.2.2.2.2.2.1]) ?_
            refine mm_bipush (v := nI 20) rfl (by decide) ?_
            refine mm_iremN rfl (by omega) (by omega) (by omega) ?_
            refine mm_rdN (x := nI u) rfl (by decide) rfl (by decide) ed_mod (by decide) rfl (by simp [ed_fr, mm_set]; exact hu h75) ?_
            refine mm_bipush (v := nI 7) rfl (by decide) ?_
            refine mm_icmp_gtN (tgt := 126) rfl (by decide) (by omega) (by omega) (fun h92 => ?_) (fun h92 => ?_)
            · refine mm_aload_n rfl rfl ?_
              refine mm_aload_n rfl rfl ?_
              refine mm_getI (x := nI q) rfl rfl rfl (by decide) rfl (by simp [ed_fr, mm_set, hp]) ?_
              refine mm_iconst (v := nI 0) rfl (by decide) ?_
              refine mm_isV2 (M2 := qR_step) wd_645 qR_step_k (by decide) (sR_step (J := (ed_fr (mm_set J 69 4 (nI t)) c t)) hG (hT.ri (J1 := (ed_fr (mm_set J 69 4 (nI t)) c t)) (s := t) (fun k hk => by simp [ed_fr, mm_set, hk]) rfl rfl (by simp [ed_fr, mm_set]) (by omega)) (by omega) (by omega)) rfl (by decide) (Nat.le_of_ble_eq_true rfl) (by decide) (by decide) rfl (by decide) ?_
              refine mm_aload_n rfl rfl ?_
              refine mm_dup rfl rfl ?_
              refine mm_getI (x := nI q) rfl rfl rfl (by decide) rfl ((ed_RS_f (by decide)).trans (by simp [ed_fr, mm_set, hp])) ?_
              refine mm_aload_n rfl rfl ?_
              refine mm_getI (x := nI t) rfl rfl rfl (by decide) rfl ((ed_RS_f (by decide)).trans (by simp [ed_fr, mm_set, ht])) ?_
              refine mm_iaddN rfl ?_
              refine mm_putI rfl rfl rfl (by decide) rfl (Or.inl rfl) rfl rfl ?_
              refine mm_aload_n rfl rfl ?_
              refine mm_bipush (v := nI 100) rfl (by decide) ?_
              refine mm_isV1 (M2 := qR_done) wd_649 qR_done_k (by decide) sR_done rfl (by decide) (Nat.le_of_ble_eq_true rfl) (by decide) (by decide) rfl (by decide) ?_
              refine mm_ireturn rfl rfl rfl (by decide) (by decide) ?_
              exact ⟨rfl, rfl, rfl, rfl⟩
            · exact absurd ⟨h75, by omega⟩ hj
        · exact absurd h32 (by omega)
      · exact hch.elim (fun e => absurd e (by rw [ed_beq h4]; decide)) (fun e => e.elim (fun e => absurd e h10) (fun e => absurd e h16))
set_option maxRecDepth 100000 in
set_option maxHeartbeats 400000 in
theorem sR_insert2 {E : mm_E} {G : mm_G} {J : mm_J} (hG : mm_GI G) {n m : Nat} (hT : ed_RB J n m) {q t : Nat} {c : Int32} (hch : ed_ch c) (ht : J 69 7 = nI t) (ht9 : t ≤ 9) (hp : J 69 5 = nI q) (hq : q ≤ n) {u : Nat} (hu : J 69 8 = nI 100 → J 81 (m % 20) = nI u) (hu2 : u ≤ 100) (h : n + t ≤ 100) (hj : J 69 8 = nI 100 ∧ u ≤ 7) : mm_Ret E qR_insert [.ref 69, .int c] 86 J G (some (.int (nI 0))) 86 (mm_set (mm_set (mm_set (ed_Re (mm_set (ed_fr (mm_set J 69 4 (nI t)) c t) 81 (m % 20) (nI (u + t))) n q 0 t) 69 5 (nI (q + t))) 69 8 (nI 100)) 69 7 (nI 1)) G := by
  refine mm_Met.of qR_insert_ok (by decide) (mm_cats rfl) (Nat.le_of_ble_eq_true rfl) ?_
  have hn2 := hT.2.1
  have hm2 := hT.2.2.2.2.2.2
  refine mm_iload_n rfl rfl ?_
  refine mm_isS1 (M2 := qR_letter) wd_635 qR_letter_k (by decide) sR_letter (Nat.le_of_ble_eq_true rfl) (by decide) (by decide) rfl (by decide) ?_
  refine mm_if_neN (tgt := 21) rfl (by decide) (ed_b31 _) (fun h4 => ?_) (fun h4 => ?_)
  · refine mm_aload_n rfl rfl ?_
    refine mm_getI (x := nI n) rfl rfl rfl (by decide) rfl hT.1 ?_
    refine mm_aload_n rfl rfl ?_
    refine mm_getI (x := nI t) rfl rfl rfl (by decide) rfl ht ?_
    refine mm_iaddN rfl ?_
    refine mm_bipush (v := nI 100) rfl (by decide) ?_
    refine mm_icmp_leN (tgt := 38) rfl (by decide) (by omega) (by omega) (fun h32 => ?_) (fun h32 => ?_)
    · refine mm_aload_n rfl rfl ?_
      refine mm_aload_n rfl rfl ?_
      refine mm_getI (x := nI t) rfl rfl rfl (by decide) rfl ht ?_
      refine mm_putI rfl rfl rfl (by decide) rfl (Or.inl rfl) rfl rfl ?_
      refine mm_iconst (v := nI 0) rfl (by decide) ?_
      refine mm_istore_n rfl (by decide) ?_
      refine mm_J_eq (ed_fr_0 _ c).symm (lR_insert (J := mm_set J 69 4 (nI t)) hG (by simp [mm_set, ht]) ht9 ?_ t 0 rfl (by omega))
      refine mm_aload_n rfl rfl ?_
      refine mm_getI (x := J 69 8) rfl rfl rfl (by decide) rfl (by simp [ed_fr, mm_set]) ?_
      refine mm_bipush (v := nI 100) rfl (by decide) ?_
      refine mm_icmp_ne (tgt := 126) rfl (by decide) (fun h75 => ?_) (fun h75 => ?_)
      · exact absurd hj.1 h75
      · refine mm_aload_n rfl rfl ?_
        refine mm_getR rfl rfl rfl (by decide) rfl (mm_gi hG 69 22 81 (by decide)) ?_
        refine mm_aload_n rfl rfl ?_
        refine mm_getI (x := nI m) rfl rfl rfl (by decide) rfl (by simp [ed_fr, mm_set, hT.2.2.2.2.2.1]) ?_
        refine mm_bipush (v := nI 20) rfl (by decide) ?_
        refine mm_iremN rfl (by omega) (by omega) (by omega) ?_
        refine mm_rdN (x := nI u) rfl (by decide) rfl (by decide) ed_mod (by decide) rfl (by simp [ed_fr, mm_set]; exact hu h75) ?_
        refine mm_bipush (v := nI 7) rfl (by decide) ?_
        refine mm_icmp_gtN (tgt := 126) rfl (by decide) (by omega) (by omega) (fun h92 => ?_) (fun h92 => ?_)
        · exact absurd h92 (by omega)
        · refine mm_aload_n rfl rfl ?_
          refine mm_getR rfl rfl rfl (by decide) rfl (mm_gi hG 69 22 81 (by decide)) ?_
          refine mm_aload_n rfl rfl ?_
          refine mm_getI (x := nI m) rfl rfl rfl (by decide) rfl (by simp [ed_fr, mm_set, hT.2.2.2.2.2.1]) ?_
          refine mm_bipush (v := nI 20) rfl (by decide) ?_
          refine mm_iremN rfl (by omega) (by omega) (by omega) ?_
          refine mm_dup2 rfl rfl rfl ?_
          refine mm_rdN (x := nI u) rfl (by decide) rfl (by decide) ed_mod (by decide) rfl (by simp [ed_fr, mm_set]; exact hu h75) ?_
          refine mm_aload_n rfl rfl ?_
          refine mm_getI (x := nI t) rfl rfl rfl (by decide) rfl (by simp [ed_fr, mm_set, ht]) ?_
          refine mm_iaddN rfl ?_
          refine mm_wrN rfl (by decide) rfl (by decide) ed_mod (by decide) rfl ?_
          refine mm_aload_n rfl rfl ?_
          refine mm_aload_n rfl rfl ?_
          refine mm_getI (x := nI q) rfl rfl rfl (by decide) rfl (by simp [ed_fr, mm_set, hp]) ?_
          refine mm_iconst (v := nI 0) rfl (by decide) ?_
          refine mm_isV2 (M2 := qR_edit) wd_638 qR_edit_k (by decide) (sR_edit (J := mm_set (ed_fr (mm_set J 69 4 (nI t)) c t) 81 (m % 20) (nI (u + t))) (n := n) (s := t) hG (by simp [ed_fr, mm_set, hT.1]) hn2 (by simp [ed_fr, mm_set]) (by omega) (by omega) (by omega) (by simpa [ed_fr, mm_set] using hT.2.2.1) (fun i hi => by simpa [ed_fr, mm_set] using hT.2.2.2.1 i hi) (fun i hi => by simpa [ed_fr, mm_set] using hT.2.2.2.2.1 i hi)) rfl (by decide) (Nat.le_of_ble_eq_true rfl) (by decide) (by decide) rfl (by decide) ?_
          refine mm_goto (tgt := 135) rfl (by decide) ?_
          refine mm_aload_n rfl rfl ?_
          refine mm_dup rfl rfl ?_
          refine mm_getI (x := nI q) rfl rfl rfl (by decide) rfl ((ed_Re_f (by decide)).trans (by simp [ed_fr, mm_set, hp])) ?_
          refine mm_aload_n rfl rfl ?_
          refine mm_getI (x := nI t) rfl rfl rfl (by decide) rfl ((ed_Re_f (by decide)).trans (by simp [ed_fr, mm_set, ht])) ?_
          refine mm_iaddN rfl ?_
          refine mm_putI rfl rfl rfl (by decide) rfl (Or.inl rfl) rfl rfl ?_
          refine mm_aload_n rfl rfl ?_
          refine mm_bipush (v := nI 100) rfl (by decide) ?_
          refine mm_isV1 (M2 := qR_done) wd_649 qR_done_k (by decide) sR_done rfl (by decide) (Nat.le_of_ble_eq_true rfl) (by decide) (by decide) rfl (by decide) ?_
          refine mm_ireturn rfl rfl rfl (by decide) (by decide) ?_
          exact ⟨rfl, rfl, rfl, rfl⟩
    · exact absurd h32 (by omega)
  · refine mm_iload_n rfl rfl ?_
    refine mm_bipush (v := nI 32) rfl (by decide) ?_
    refine mm_icmp_eq (tgt := 21) rfl (by decide) (fun h10 => ?_) (fun h10 => ?_)
    · refine mm_aload_n rfl rfl ?_
      refine mm_getI (x := nI n) rfl rfl rfl (by decide) rfl hT.1 ?_
      refine mm_aload_n rfl rfl ?_
      refine mm_getI (x := nI t) rfl rfl rfl (by decide) rfl ht ?_
      refine mm_iaddN rfl ?_
      refine mm_bipush (v := nI 100) rfl (by decide) ?_
      refine mm_icmp_leN (tgt := 38) rfl (by decide) (by omega) (by omega) (fun h32 => ?_) (fun h32 => ?_)
      · refine mm_aload_n rfl rfl ?_
        refine mm_aload_n rfl rfl ?_
        refine mm_getI (x := nI t) rfl rfl rfl (by decide) rfl ht ?_
        refine mm_putI rfl rfl rfl (by decide) rfl (Or.inl rfl) rfl rfl ?_
        refine mm_iconst (v := nI 0) rfl (by decide) ?_
        refine mm_istore_n rfl (by decide) ?_
        refine mm_J_eq (ed_fr_0 _ c).symm (lR_insert (J := mm_set J 69 4 (nI t)) hG (by simp [mm_set, ht]) ht9 ?_ t 0 rfl (by omega))
        refine mm_aload_n rfl rfl ?_
        refine mm_getI (x := J 69 8) rfl rfl rfl (by decide) rfl (by simp [ed_fr, mm_set]) ?_
        refine mm_bipush (v := nI 100) rfl (by decide) ?_
        refine mm_icmp_ne (tgt := 126) rfl (by decide) (fun h75 => ?_) (fun h75 => ?_)
        · exact absurd hj.1 h75
        · refine mm_aload_n rfl rfl ?_
          refine mm_getR rfl rfl rfl (by decide) rfl (mm_gi hG 69 22 81 (by decide)) ?_
          refine mm_aload_n rfl rfl ?_
          refine mm_getI (x := nI m) rfl rfl rfl (by decide) rfl (by simp [ed_fr, mm_set, hT.2.2.2.2.2.1]) ?_
          refine mm_bipush (v := nI 20) rfl (by decide) ?_
          refine mm_iremN rfl (by omega) (by omega) (by omega) ?_
          refine mm_rdN (x := nI u) rfl (by decide) rfl (by decide) ed_mod (by decide) rfl (by simp [ed_fr, mm_set]; exact hu h75) ?_
          refine mm_bipush (v := nI 7) rfl (by decide) ?_
          refine mm_icmp_gtN (tgt := 126) rfl (by decide) (by omega) (by omega) (fun h92 => ?_) (fun h92 => ?_)
          · exact absurd h92 (by omega)
          · refine mm_aload_n rfl rfl ?_
            refine mm_getR rfl rfl rfl (by decide) rfl (mm_gi hG 69 22 81 (by decide)) ?_
            refine mm_aload_n rfl rfl ?_
            refine mm_getI (x := nI m) rfl rfl rfl (by decide) rfl (by simp [ed_fr, mm_set, hT.2.2.2.2.2.1]) ?_
            refine mm_bipush (v := nI 20) rfl (by decide) ?_
            refine mm_iremN rfl (by omega) (by omega) (by omega) ?_
            refine mm_dup2 rfl rfl rfl ?_
            refine mm_rdN (x := nI u) rfl (by decide) rfl (by decide) ed_mod (by decide) rfl (by simp [ed_fr, mm_set]; exact hu h75) ?_
            refine mm_aload_n rfl rfl ?_
            refine mm_getI (x := nI t) rfl rfl rfl (by decide) rfl (by simp [ed_fr, mm_set, ht]) ?_
            refine mm_iaddN rfl ?_
            refine mm_wrN rfl (by decide) rfl (by decide) ed_mod (by decide) rfl ?_
            refine mm_aload_n rfl rfl ?_
            refine mm_aload_n rfl rfl ?_
            refine mm_getI (x := nI q) rfl rfl rfl (by decide) rfl (by simp [ed_fr, mm_set, hp]) ?_
            refine mm_iconst (v := nI 0) rfl (by decide) ?_
            refine mm_isV2 (M2 := qR_edit) wd_638 qR_edit_k (by decide) (sR_edit (J := mm_set (ed_fr (mm_set J 69 4 (nI t)) c t) 81 (m % 20) (nI (u + t))) (n := n) (s := t) hG (by simp [ed_fr, mm_set, hT.1]) hn2 (by simp [ed_fr, mm_set]) (by omega) (by omega) (by omega) (by simpa [ed_fr, mm_set] using hT.2.2.1) (fun i hi => by simpa [ed_fr, mm_set] using hT.2.2.2.1 i hi) (fun i hi => by simpa [ed_fr, mm_set] using hT.2.2.2.2.1 i hi)) rfl (by decide) (Nat.le_of_ble_eq_true rfl) (by decide) (by decide) rfl (by decide) ?_
            refine mm_goto (tgt := 135) rfl (by decide) ?_
            refine mm_aload_n rfl rfl ?_
            refine mm_dup rfl rfl ?_
            refine mm_getI (x := nI q) rfl rfl rfl (by decide) rfl ((ed_Re_f (by decide)).trans (by simp [ed_fr, mm_set, hp])) ?_
            refine mm_aload_n rfl rfl ?_
            refine mm_getI (x := nI t) rfl rfl rfl (by decide) rfl ((ed_Re_f (by decide)).trans (by simp [ed_fr, mm_set, ht])) ?_
            refine mm_iaddN rfl ?_
            refine mm_putI rfl rfl rfl (by decide) rfl (Or.inl rfl) rfl rfl ?_
            refine mm_aload_n rfl rfl ?_
            refine mm_bipush (v := nI 100) rfl (by decide) ?_
            refine mm_isV1 (M2 := qR_done) wd_649 qR_done_k (by decide) sR_done rfl (by decide) (Nat.le_of_ble_eq_true rfl) (by decide) (by decide) rfl (by decide) ?_
            refine mm_ireturn rfl rfl rfl (by decide) (by decide) ?_
            exact ⟨rfl, rfl, rfl, rfl⟩
      · exact absurd h32 (by omega)
    · refine mm_iload_n rfl rfl ?_
      refine mm_bipush (v := nI 10) rfl (by decide) ?_
      refine mm_icmp_eq (tgt := 21) rfl (by decide) (fun h16 => ?_) (fun h16 => ?_)
      · refine mm_aload_n rfl rfl ?_
        refine mm_getI (x := nI n) rfl rfl rfl (by decide) rfl hT.1 ?_
        refine mm_aload_n rfl rfl ?_
        refine mm_getI (x := nI t) rfl rfl rfl (by decide) rfl ht ?_
        refine mm_iaddN rfl ?_
        refine mm_bipush (v := nI 100) rfl (by decide) ?_
        refine mm_icmp_leN (tgt := 38) rfl (by decide) (by omega) (by omega) (fun h32 => ?_) (fun h32 => ?_)
        · refine mm_aload_n rfl rfl ?_
          refine mm_aload_n rfl rfl ?_
          refine mm_getI (x := nI t) rfl rfl rfl (by decide) rfl ht ?_
          refine mm_putI rfl rfl rfl (by decide) rfl (Or.inl rfl) rfl rfl ?_
          refine mm_iconst (v := nI 0) rfl (by decide) ?_
          refine mm_istore_n rfl (by decide) ?_
          refine mm_J_eq (ed_fr_0 _ c).symm (lR_insert (J := mm_set J 69 4 (nI t)) hG (by simp [mm_set, ht]) ht9 ?_ t 0 rfl (by omega))
          refine mm_aload_n rfl rfl ?_
          refine mm_getI (x := J 69 8) rfl rfl rfl (by decide) rfl (by simp [ed_fr, mm_set]) ?_
          refine mm_bipush (v := nI 100) rfl (by decide) ?_
          refine mm_icmp_ne (tgt := 126) rfl (by decide) (fun h75 => ?_) (fun h75 => ?_)
          · exact absurd hj.1 h75
          · refine mm_aload_n rfl rfl ?_
            refine mm_getR rfl rfl rfl (by decide) rfl (mm_gi hG 69 22 81 (by decide)) ?_
            refine mm_aload_n rfl rfl ?_
            refine mm_getI (x := nI m) rfl rfl rfl (by decide) rfl (by simp [ed_fr, mm_set, hT.2.2.2.2.2.1]) ?_
            refine mm_bipush (v := nI 20) rfl (by decide) ?_
            refine mm_iremN rfl (by omega) (by omega) (by omega) ?_
            refine mm_rdN (x := nI u) rfl (by decide) rfl (by decide) ed_mod (by decide) rfl (by simp [ed_fr, mm_set]; exact hu h75) ?_
            refine mm_bipush (v := nI 7) rfl (by decide) ?_
            refine mm_icmp_gtN (tgt := 126) rfl (by decide) (by omega) (by omega) (fun h92 => ?_) (fun h92 => ?_)
            · exact absurd h92 (by omega)
            · refine mm_aload_n rfl rfl ?_
              refine mm_getR rfl rfl rfl (by decide) rfl (mm_gi hG 69 22 81 (by decide)) ?_
              refine mm_aload_n rfl rfl ?_
              refine mm_getI (x := nI m) rfl rfl rfl (by decide) rfl (by simp [ed_fr, mm_set, hT.2.2.2.2.2.1]) ?_
              refine mm_bipush (v := nI 20) rfl (by decide) ?_
              refine mm_iremN rfl (by omega) (by omega) (by omega) ?_
              refine mm_dup2 rfl rfl rfl ?_
              refine mm_rdN (x := nI u) rfl (by decide) rfl (by decide) ed_mod (by decide) rfl (by simp [ed_fr, mm_set]; exact hu h75) ?_
              refine mm_aload_n rfl rfl ?_
              refine mm_getI (x := nI t) rfl rfl rfl (by decide) rfl (by simp [ed_fr, mm_set, ht]) ?_
              refine mm_iaddN rfl ?_
              refine mm_wrN rfl (by decide) rfl (by decide) ed_mod (by decide) rfl ?_
              refine mm_aload_n rfl rfl ?_
              refine mm_aload_n rfl rfl ?_
              refine mm_getI (x := nI q) rfl rfl rfl (by decide) rfl (by simp [ed_fr, mm_set, hp]) ?_
              refine mm_iconst (v := nI 0) rfl (by decide) ?_
              refine mm_isV2 (M2 := qR_edit) wd_638 qR_edit_k (by decide) (sR_edit (J := mm_set (ed_fr (mm_set J 69 4 (nI t)) c t) 81 (m % 20) (nI (u + t))) (n := n) (s := t) hG (by simp [ed_fr, mm_set, hT.1]) hn2 (by simp [ed_fr, mm_set]) (by omega) (by omega) (by omega) (by simpa [ed_fr, mm_set] using hT.2.2.1) (fun i hi => by simpa [ed_fr, mm_set] using hT.2.2.2.1 i hi) (fun i hi => by simpa [ed_fr, mm_set] using hT.2.2.2.2.1 i hi)) rfl (by decide) (Nat.le_of_ble_eq_true rfl) (by decide) (by decide) rfl (by decide) ?_
              refine mm_goto (tgt := 135) rfl (by decide) ?_
              refine mm_aload_n rfl rfl ?_
              refine mm_dup rfl rfl ?_
              refine mm_getI (x := nI q) rfl rfl rfl (by decide) rfl ((ed_Re_f (by decide)).trans (by simp [ed_fr, mm_set, hp])) ?_
              refine mm_aload_n rfl rfl ?_
              refine mm_getI (x := nI t) rfl rfl rfl (by decide) rfl ((ed_Re_f (by decide)).trans (by simp [ed_fr, mm_set, ht])) ?_
              refine mm_iaddN rfl ?_
              refine mm_putI rfl rfl rfl (by decide) rfl (Or.inl rfl) rfl rfl ?_
              refine mm_aload_n rfl rfl ?_
              refine mm_bipush (v := nI 100) rfl (by decide) ?_
              refine mm_isV1 (M2 := qR_done) wd_649 qR_done_k (by decide) sR_done rfl (by decide) (Nat.le_of_ble_eq_true rfl) (by decide) (by decide) rfl (by decide) ?_
              refine mm_ireturn rfl rfl rfl (by decide) (by decide) ?_
              exact ⟨rfl, rfl, rfl, rfl⟩
        · exact absurd h32 (by omega)
      · exact hch.elim (fun e => absurd e (by rw [ed_beq h4]; decide)) (fun e => e.elim (fun e => absurd e h10) (fun e => absurd e h16))
set_option maxRecDepth 100000 in
set_option maxHeartbeats 400000 in
theorem sR_erase0 {E : mm_E} {G : mm_G} {J : mm_J} {a : Int32} : mm_Ret E qR_erase [.ref 69, .int a, .int (nI 0)] 86 J G (some (.int (-2))) 86 J G := by
  refine mm_Met.of qR_erase_ok (by decide) (mm_cats rfl) (Nat.le_of_ble_eq_true rfl) ?_
  refine mm_iload_n rfl rfl ?_
  refine mm_if_gtN (tgt := 7) rfl (by decide) (by decide) (fun h1 => ?_) (fun h1 => ?_)
  · exact absurd h1 (by decide)
  · refine mm_bipush (v := -2) rfl (by decide) ?_
    refine mm_ireturn rfl rfl rfl (by decide) (by decide) ?_
    exact ⟨rfl, rfl, rfl, rfl⟩
set_option maxRecDepth 100000 in
set_option maxHeartbeats 400000 in
theorem sR_erase1 {E : mm_E} {G : mm_G} {J : mm_J} (hG : mm_GI G) {n m : Nat} (hT : ed_RB J n m) {a d : Nat} (hd : 0 < d) (had : a + d ≤ n) : mm_Ret E qR_erase [.ref 69, .int (nI a), .int (nI d)] 86 J G (some (.int (nI 0))) 86 (mm_set (ed_RS (mm_set J 69 4 (nI 0)) n m a d 0) 69 5 (nI a)) G := by
  refine mm_Met.of qR_erase_ok (by decide) (mm_cats rfl) (Nat.le_of_ble_eq_true rfl) ?_
  have hn2 := hT.2.1
  refine mm_iload_n rfl rfl ?_
  refine mm_if_gtN (tgt := 7) rfl (by decide) (by omega) (fun h1 => ?_) (fun h1 => ?_)
  · refine mm_aload_n rfl rfl ?_
    refine mm_iconst (v := nI 0) rfl (by decide) ?_
    refine mm_putI rfl rfl rfl (by decide) rfl (Or.inl rfl) rfl rfl ?_
    refine mm_aload_n rfl rfl ?_
    refine mm_iload_n rfl rfl ?_
    refine mm_iload_n rfl rfl ?_
    refine mm_isV2 (M2 := qR_step) wd_645 qR_step_k (by decide) (sR_step (s := 0) hG (hT.ri (fun k hk => by simp [mm_set, hk]) rfl rfl (by simp [mm_set]) (by omega)) had (by omega)) rfl (by decide) (Nat.le_of_ble_eq_true rfl) (by decide) (by decide) rfl (by decide) ?_
    refine mm_aload_n rfl rfl ?_
    refine mm_iload_n rfl rfl ?_
    refine mm_putI rfl rfl rfl (by decide) rfl (Or.inl rfl) rfl rfl ?_
    refine mm_iconst (v := nI 0) rfl (by decide) ?_
    refine mm_ireturn rfl rfl rfl (by decide) (by decide) ?_
    exact ⟨rfl, rfl, rfl, rfl⟩
  · exact absurd h1 (by omega)
set_option maxRecDepth 100000 in
set_option maxHeartbeats 400000 in
theorem sR_swap0 {E : mm_E} {G : mm_G} {J : mm_J} (hG : mm_GI G) {n m : Nat} (hT : ed_RB J n m) {q : Nat} (hp : J 69 5 = nI q) (hq : q ≤ n) (h : q = 0 ∨ q = n) : mm_Ret E qR_swap [.ref 69] 86 J G (some (.int (-2))) 86 J G := by
  refine mm_Met.of qR_swap_ok (by decide) (mm_cats rfl) (Nat.le_of_ble_eq_true rfl) ?_
  have hn2 := hT.2.1
  refine mm_aload_n rfl rfl ?_
  refine mm_getI (x := nI q) rfl rfl rfl (by decide) rfl hp ?_
  refine mm_if_eqN (tgt := 18) rfl (by decide) (by omega) (fun h4 => ?_) (fun h4 => ?_)
  · refine mm_bipush (v := -2) rfl (by decide) ?_
    refine mm_ireturn rfl rfl rfl (by decide) (by decide) ?_
    exact ⟨rfl, rfl, rfl, rfl⟩
  · refine mm_aload_n rfl rfl ?_
    refine mm_getI (x := nI q) rfl rfl rfl (by decide) rfl hp ?_
    refine mm_aload_n rfl rfl ?_
    refine mm_getI (x := nI n) rfl rfl rfl (by decide) rfl hT.1 ?_
    refine mm_icmp_neN (tgt := 21) rfl (by decide) (by omega) (by omega) (fun h15 => ?_) (fun h15 => ?_)
    · exact absurd h15 (by omega)
    · refine mm_bipush (v := -2) rfl (by decide) ?_
      refine mm_ireturn rfl rfl rfl (by decide) (by decide) ?_
      exact ⟨rfl, rfl, rfl, rfl⟩
set_option maxRecDepth 100000 in
set_option maxHeartbeats 400000 in
theorem sR_swap1 {E : mm_E} {G : mm_G} {J : mm_J} (hG : mm_GI G) {n m : Nat} (hT : ed_RB J n m) {q : Nat} (hp : J 69 5 = nI q) (hq : q ≤ n) (h1 : 0 < q) (h2 : q < n) : mm_Ret E qR_swap [.ref 69] 86 J G (some (.int (nI 0))) 86 (mm_set (ed_RS (mm_set (mm_set (mm_set J 69 4 (nI 2)) 72 0 (J 70 q)) 72 1 (J 70 (q - 1))) n m (q - 1) 2 2) 69 5 (nI (q - 1 + 2))) G := by
  refine mm_Met.of qR_swap_ok (by decide) (mm_cats rfl) (Nat.le_of_ble_eq_true rfl) ?_
  have hn2 := hT.2.1
  refine mm_aload_n rfl rfl ?_
  refine mm_getI (x := nI q) rfl rfl rfl (by decide) rfl hp ?_
  refine mm_if_eqN (tgt := 18) rfl (by decide) (by omega) (fun h4 => ?_) (fun h4 => ?_)
  · exact absurd h4 (by omega)
  · refine mm_aload_n rfl rfl ?_
    refine mm_getI (x := nI q) rfl rfl rfl (by decide) rfl hp ?_
    refine mm_aload_n rfl rfl ?_
    refine mm_getI (x := nI n) rfl rfl rfl (by decide) rfl hT.1 ?_
    refine mm_icmp_neN (tgt := 21) rfl (by decide) (by omega) (by omega) (fun h15 => ?_) (fun h15 => ?_)
    · refine mm_aload_n rfl rfl ?_
      refine mm_iconst (v := nI 2) rfl (by decide) ?_
      refine mm_putI rfl rfl rfl (by decide) rfl (Or.inl rfl) rfl rfl ?_
      refine mm_aload_n rfl rfl ?_
      refine mm_getR rfl rfl rfl (by decide) rfl (mm_gi hG 69 2 72 (by decide)) ?_
      refine mm_iconst (v := nI 0) rfl (by decide) ?_
      refine mm_aload_n rfl rfl ?_
      refine mm_getR rfl rfl rfl (by decide) rfl (mm_gi hG 69 0 70 (by decide)) ?_
      refine mm_aload_n rfl rfl ?_
      refine mm_getI (x := nI q) rfl rfl rfl (by decide) rfl (by simp [mm_set, mm_cp, hp]) ?_
      refine mm_rdN (x := J 70 q) rfl (by decide) rfl (by decide) (by omega) (by decide) rfl (by simp [mm_set]) ?_
      refine mm_wrN rfl (by decide) rfl (by decide) (by decide) (by decide) rfl ?_
      refine mm_aload_n rfl rfl ?_
      refine mm_getR rfl rfl rfl (by decide) rfl (mm_gi hG 69 2 72 (by decide)) ?_
      refine mm_iconst (v := nI 1) rfl (by decide) ?_
      refine mm_aload_n rfl rfl ?_
      refine mm_getR rfl rfl rfl (by decide) rfl (mm_gi hG 69 0 70 (by decide)) ?_
      refine mm_aload_n rfl rfl ?_
      refine mm_getI (x := nI q) rfl rfl rfl (by decide) rfl (by simp [mm_set, mm_cp, hp]) ?_
      refine mm_iconst (v := nI 1) rfl (by decide) ?_
      refine mm_isubN rfl (by omega) ?_
      refine mm_rdN (x := J 70 (q - 1)) rfl (by decide) rfl (by decide) (by omega) (by decide) rfl (by simp [mm_set]) ?_
      refine mm_wrN rfl (by decide) rfl (by decide) (by decide) (by decide) rfl ?_
      refine mm_aload_n rfl rfl ?_
      refine mm_getI (x := nI q) rfl rfl rfl (by decide) rfl (by simp [mm_set, mm_cp, hp]) ?_
      refine mm_iconst (v := nI 1) rfl (by decide) ?_
      refine mm_isubN rfl (by omega) ?_
      refine mm_istore_n rfl (by decide) ?_
      refine mm_aload_n rfl rfl ?_
      refine mm_iload_n rfl rfl ?_
      refine mm_iconst (v := nI 2) rfl (by decide) ?_
      refine mm_isV2 (M2 := qR_step) wd_645 qR_step_k (by decide) (sR_step (s := 2) hG (hT.ri (fun k hk => by simp [mm_set, hk]) rfl rfl (by simp [mm_set]) (by omega)) (by omega) (by omega)) rfl (by decide) (Nat.le_of_ble_eq_true rfl) (by decide) (by decide) rfl (by decide) ?_
      refine mm_aload_n rfl rfl ?_
      refine mm_iload_n rfl rfl ?_
      refine mm_iconst (v := nI 2) rfl (by decide) ?_
      refine mm_iaddN rfl ?_
      refine mm_putI rfl rfl rfl (by decide) rfl (Or.inl rfl) rfl rfl ?_
      refine mm_iconst (v := nI 0) rfl (by decide) ?_
      refine mm_ireturn rfl rfl rfl (by decide) (by decide) ?_
      exact ⟨rfl, rfl, rfl, rfl⟩
    · exact absurd h15 (by omega)
set_option maxRecDepth 100000 in
set_option maxHeartbeats 400000 in
theorem sR_exchange0 {E : mm_E} {G : mm_G} {J : mm_J} (hk : J 69 6 = -2) : mm_Ret E qR_exchange [.ref 69] 86 J G (some (.int (-2))) 86 J G := by
  refine mm_Met.of qR_exchange_ok (by decide) (mm_cats rfl) (Nat.le_of_ble_eq_true rfl) ?_
  refine mm_aload_n rfl rfl ?_
  refine mm_getI rfl rfl rfl (by decide) rfl hk ?_
  refine mm_if_ge (tgt := 10) rfl (by decide) (fun h4 => ?_) (fun h4 => ?_)
  · exact absurd h4 (by decide)
  · refine mm_bipush (v := -2) rfl (by decide) ?_
    refine mm_ireturn rfl rfl rfl (by decide) (by decide) ?_
    exact ⟨rfl, rfl, rfl, rfl⟩
set_option maxRecDepth 100000 in
set_option maxHeartbeats 400000 in
theorem sR_exchange1 {E : mm_E} {G : mm_G} {J : mm_J} {k : Nat} (hk : J 69 6 = nI k) (hk2 : k ≤ 100) : mm_Ret E qR_exchange [.ref 69] 86 J G (some (.int (nI 0))) 86 (mm_set (mm_set J 69 6 (J 69 5)) 69 5 (nI k)) G := by
  refine mm_Met.of qR_exchange_ok (by decide) (mm_cats rfl) (Nat.le_of_ble_eq_true rfl) ?_
  refine mm_aload_n rfl rfl ?_
  refine mm_getI (x := nI k) rfl rfl rfl (by decide) rfl hk ?_
  refine mm_if_geN (tgt := 10) rfl (by decide) (by omega) ?_
  refine mm_aload_n rfl rfl ?_
  refine mm_getI (x := nI k) rfl rfl rfl (by decide) rfl hk ?_
  refine mm_istore_n rfl (by decide) ?_
  refine mm_aload_n rfl rfl ?_
  refine mm_aload_n rfl rfl ?_
  refine mm_getI rfl rfl rfl (by decide) rfl rfl ?_
  refine mm_putI rfl rfl rfl (by decide) rfl (Or.inl rfl) rfl rfl ?_
  refine mm_aload_n rfl rfl ?_
  refine mm_iload_n rfl rfl ?_
  refine mm_putI rfl rfl rfl (by decide) rfl (Or.inl rfl) rfl rfl ?_
  refine mm_iconst (v := nI 0) rfl (by decide) ?_
  refine mm_ireturn rfl rfl rfl (by decide) (by decide) ?_
  exact ⟨rfl, rfl, rfl, rfl⟩
end
section
theorem mm_cp_t (J : mm_J) (a b : Nat) (sp dp i : Nat) : mm_set (mm_cp J a b sp dp i) b (dp + i) (J a (sp + i)) = mm_cp J a b sp dp (i + 1) := by
  funext x y
  unfold mm_set mm_cp va_cpy
  by_cases hx : x = b
  · subst hx
    by_cases hy : y = dp + i
    · subst hy
      simp
    · by_cases h : dp ≤ y ∧ y < dp + i
      · simp [hy, h, show y < dp + (i + 1) by omega]
      · simp [hy, h, show ¬ (dp ≤ y ∧ y < dp + (i + 1)) by omega]
  · simp [hx]
set_option maxRecDepth 100000 in
set_option maxHeartbeats 400000 in
theorem lR_undo {E : mm_E} {G : mm_G} {J : mm_J} (hG : mm_GI G) {u k a tk : Nat} {F : mm_F} (hk20 : k < 20) (htk : J 69 4 = nI tk) (ha : J 79 k = nI a) (hat : a + tk ≤ 100) (kk : mm_Go E qR_undo 97 [some (.ref 69), some (.int (nI u)), some (.int (nI k)), some (.int (nI tk)), none] [] 86 (mm_cp J 77 72 (k * 100 + a) 0 tk) G 0 0 F) : ∀ (q i : Nat), tk - i = q → i ≤ tk → mm_Go E qR_undo 59 [some (.ref 69), some (.int (nI u)), some (.int (nI k)), some (.int (nI i)), none] [] 86 (mm_cp J 77 72 (k * 100 + a) 0 i) G 0 0 F
  | 0, i, hq, hi => by
    refine mm_iload_n rfl rfl ?_
    refine mm_aload_n rfl rfl ?_
    refine mm_getI (x := nI tk) rfl rfl rfl (by decide) rfl (by simp [mm_cp, htk]) ?_
    refine mm_icmp_geN (tgt := 97) rfl (by decide) (by omega) (by omega) (fun h64 => ?_) (fun h64 => ?_)
    · obtain rfl : tk = i := by omega
      exact kk
    · exact absurd h64 (by omega)
  | q + 1, i, hq, hi => by
    refine mm_iload_n rfl rfl ?_
    refine mm_aload_n rfl rfl ?_
    refine mm_getI (x := nI tk) rfl rfl rfl (by decide) rfl (by simp [mm_cp, htk]) ?_
    refine mm_icmp_geN (tgt := 97) rfl (by decide) (by omega) (by omega) (fun h64 => ?_) (fun h64 => ?_)
    · exact absurd h64 (by omega)
    · refine mm_aload_n rfl rfl ?_
      refine mm_getR rfl rfl rfl (by decide) rfl (mm_gi hG 69 2 72 (by decide)) ?_
      refine mm_iload_n rfl rfl ?_
      refine mm_aload_n rfl rfl ?_
      refine mm_getR rfl rfl rfl (by decide) rfl (mm_gi hG 69 18 77 (by decide)) ?_
      refine mm_iload_n rfl rfl ?_
      refine mm_bipush (v := nI 100) rfl (by decide) ?_
      refine mm_imulN rfl ?_
      refine mm_aload_n rfl rfl ?_
      refine mm_getR rfl rfl rfl (by decide) rfl (mm_gi hG 69 20 79 (by decide)) ?_
      refine mm_iload_n rfl rfl ?_
      refine mm_rdN (x := nI a) rfl (by decide) rfl (by decide) hk20 (by decide) rfl (by simp [mm_cp, ha]) ?_
      refine mm_iaddN rfl ?_
      refine mm_iload_n rfl rfl ?_
      refine mm_iaddN rfl ?_
      refine mm_rdN (x := J 77 (k * 100 + a + i)) rfl (by decide) rfl (by decide) (by omega) (by decide) rfl (by simp [mm_cp]) ?_
      refine mm_wrN rfl (by decide) rfl (by decide) (by omega) (by decide) rfl ?_
      refine mm_iincN rfl rfl (mm_inc1 _) (by decide) ?_
      refine mm_goto (tgt := 59) rfl (by decide) ?_
      have e := mm_cp_t J 77 72 (k * 100 + a) 0 i
      rw [Nat.zero_add] at e
      rw [e]
      exact lR_undo hG hk20 htk ha hat kk q (i + 1) (by omega) (by omega)
set_option maxRecDepth 100000 in
set_option maxHeartbeats 400000 in
theorem lR_undo0 {E : mm_E} {G : mm_G} {J : mm_J} (hG : mm_GI G) {n m : Nat} (hT : ed_RB J n m) {u : Nat} (h : u = 0 ∨ u + 20 ≤ m) (hum : u ≤ m) : mm_Go E qR_undo 22 [some (.ref 69), none, none, none, none] [.int (nI u)] 86 J G 0 0 (mm_Fm E qR_undo (mm_is (some (.int (-2))) 86 J G)) := by
  have hm2 := hT.2.2.2.2.2.2
  refine mm_istore_n rfl (by decide) ?_
  refine mm_iload_n rfl rfl ?_
  refine mm_iconst (v := nI 1) rfl (by decide) ?_
  refine mm_icmp_ltN (tgt := 39) rfl (by decide) (by omega) (by omega) (fun h25 => ?_) (fun h25 => ?_)
  · refine mm_bipush (v := -2) rfl (by decide) ?_
    refine mm_ireturn rfl rfl rfl (by decide) (by decide) ?_
    exact ⟨rfl, rfl, rfl, rfl⟩
  · refine mm_iload_n rfl rfl ?_
    refine mm_aload_n rfl rfl ?_
    refine mm_getI (x := nI m) rfl rfl rfl (by decide) rfl hT.2.2.2.2.2.1 ?_
    refine mm_bipush (v := nI 20) rfl (by decide) ?_
    refine mm_isub rfl ?_
    refine mm_icmp_gt (tgt := 42) rfl (by decide) (fun h36 => ?_) (fun h36 => ?_)
    · exact absurd (ed_k2 (by omega) (by omega) (by omega)) (Int32.not_le.mpr h36)
    · refine mm_bipush (v := -2) rfl (by decide) ?_
      refine mm_ireturn rfl rfl rfl (by decide) (by decide) ?_
      exact ⟨rfl, rfl, rfl, rfl⟩
set_option maxRecDepth 100000 in
set_option maxHeartbeats 400000 in
theorem lR_undo1 {E : mm_E} {G : mm_G} {J : mm_J} (hG : mm_GI G) {n m : Nat} (hT : ed_RB J n m) {u a pu tk : Nat} (h1 : 1 ≤ u) (h2 : u ≤ m) (h3 : m < u + 20) (ha : J 79 (u % 20) = nI a) (hpu : J 81 (u % 20) = nI pu) (htk : J 80 (u % 20) = nI tk) (hat : a + tk ≤ 100) (hap : a + pu ≤ n) (hnt : n - pu + tk ≤ 100) : mm_Go E qR_undo 22 [some (.ref 69), none, none, none, none] [.int (nI u)] 86 J G 0 0 (mm_Fm E qR_undo (mm_is (some (.int (nI 0))) 86 (mm_set (mm_set (ed_RS (mm_cp (mm_set J 69 4 (nI tk)) 77 72 (u % 20 * 100 + a) 0 tk) n m a pu tk) 69 5 (nI (a + tk))) 69 24 (nI u)) G)) := by
  have hm2 := hT.2.2.2.2.2.2
  have hn2 := hT.2.1
  have hk20 : u % 20 < 20 := ed_mod
  refine mm_istore_n rfl (by decide) ?_
  refine mm_iload_n rfl rfl ?_
  refine mm_iconst (v := nI 1) rfl (by decide) ?_
  refine mm_icmp_ltN (tgt := 39) rfl (by decide) (by omega) (by omega) (fun h25 => ?_) (fun h25 => ?_)
  · exact absurd h25 (by omega)
  · refine mm_iload_n rfl rfl ?_
    refine mm_aload_n rfl rfl ?_
    refine mm_getI (x := nI m) rfl rfl rfl (by decide) rfl hT.2.2.2.2.2.1 ?_
    refine mm_bipush (v := nI 20) rfl (by decide) ?_
    refine mm_isub rfl ?_
    refine mm_icmp_gt (tgt := 42) rfl (by decide) (fun h36 => ?_) (fun h36 => ?_)
    · refine mm_iload_n rfl rfl ?_
      refine mm_bipush (v := nI 20) rfl (by decide) ?_
      refine mm_iremN rfl (by omega) (by omega) (by omega) ?_
      refine mm_istore_n rfl (by decide) ?_
      refine mm_aload_n rfl rfl ?_
      refine mm_aload_n rfl rfl ?_
      refine mm_getR rfl rfl rfl (by decide) rfl (mm_gi hG 69 21 80 (by decide)) ?_
      refine mm_iload_n rfl rfl ?_
      refine mm_rdN (x := nI tk) rfl (by decide) rfl (by decide) ed_mod (by decide) rfl htk ?_
      refine mm_putI rfl rfl rfl (by decide) rfl (Or.inl rfl) rfl rfl ?_
      refine mm_iconst (v := nI 0) rfl (by decide) ?_
      refine mm_istore_n rfl (by decide) ?_
      refine mm_J_eq (mm_cp_0 _ 77 72 (u % 20 * 100 + a) 0).symm (lR_undo (J := mm_set J 69 4 (nI tk)) hG hk20 (by simp [mm_set]) (by simp [mm_set, ha]) hat ?_ tk 0 rfl (by omega))
      refine mm_aload_n rfl rfl ?_
      refine mm_getR rfl rfl rfl (by decide) rfl (mm_gi hG 69 20 79 (by decide)) ?_
      refine mm_iload_n rfl rfl ?_
      refine mm_rdN (x := nI a) rfl (by decide) rfl (by decide) ed_mod (by decide) rfl (by simp [mm_set, mm_cp, ha]) ?_
      refine mm_istore_n rfl (by decide) ?_
      refine mm_aload_n rfl rfl ?_
      refine mm_getR rfl rfl rfl (by decide) rfl (mm_gi hG 69 22 81 (by decide)) ?_
      refine mm_iload_n rfl rfl ?_
      refine mm_rdN (x := nI pu) rfl (by decide) rfl (by decide) ed_mod (by decide) rfl (by simp [mm_set, mm_cp, hpu]) ?_
      refine mm_istore rfl (by decide) ?_
      refine mm_aload_n rfl rfl ?_
      refine mm_iload_n rfl rfl ?_
      refine mm_iload rfl rfl ?_
      refine mm_isV2 (M2 := qR_step) wd_645 qR_step_k (by decide) (sR_step (J := (mm_cp (mm_set J 69 4 (nI tk)) 77 72 (u % 20 * 100 + a) 0 tk)) (s := tk) hG (hT.ri (fun k hk => by simp [mm_set, mm_cp, hk]) rfl rfl (by simp [mm_set, mm_cp]) (by omega)) hap hnt) rfl (by decide) (Nat.le_of_ble_eq_true rfl) (by decide) (by decide) rfl (by decide) ?_
      refine mm_aload_n rfl rfl ?_
      refine mm_iload_n rfl rfl ?_
      refine mm_aload_n rfl rfl ?_
      refine mm_getI (x := nI tk) rfl rfl rfl (by decide) rfl ((ed_RS_f (by decide)).trans (by simp [mm_set, mm_cp])) ?_
      refine mm_iaddN rfl ?_
      refine mm_putI rfl rfl rfl (by decide) rfl (Or.inl rfl) rfl rfl ?_
      refine mm_aload_n rfl rfl ?_
      refine mm_iload_n rfl rfl ?_
      refine mm_putI rfl rfl rfl (by decide) rfl (Or.inl rfl) rfl rfl ?_
      refine mm_iconst (v := nI 0) rfl (by decide) ?_
      refine mm_ireturn rfl rfl rfl (by decide) (by decide) ?_
      exact ⟨rfl, rfl, rfl, rfl⟩
    · exact absurd (Int32.not_le.mp (ed_k1 (by omega) (by omega) h3)) h36
set_option maxRecDepth 100000 in
set_option maxHeartbeats 400000 in
theorem sR_undo0 {E : mm_E} {G : mm_G} {J : mm_J} (hG : mm_GI G) {n m : Nat} (hT : ed_RB J n m) {u : Nat} (hu : (J 69 8 = nI 19 ∧ J 69 24 = nI (u + 1)) ∨ (¬ J 69 8 = nI 19 ∧ u = m)) (h : u = 0 ∨ u + 20 ≤ m) (hum : u ≤ m) : mm_Ret E qR_undo [.ref 69] 86 J G (some (.int (-2))) 86 J G := by
  refine mm_Met.of qR_undo_ok (by decide) (mm_cats rfl) (Nat.le_of_ble_eq_true rfl) ?_
  have hm2 := hT.2.2.2.2.2.2
  refine mm_aload_n rfl rfl ?_
  refine mm_getI rfl rfl rfl (by decide) rfl rfl ?_
  refine mm_bipush (v := nI 19) rfl (by decide) ?_
  refine mm_icmp_ne (tgt := 18) rfl (by decide) (fun h6 => ?_) (fun h6 => ?_)
  · obtain rfl : m = u := (hu.elim (fun q => absurd q.1 h6) (fun q => q.2)).symm
    refine mm_aload_n rfl rfl ?_
    refine mm_getI (x := nI m) rfl rfl rfl (by decide) rfl hT.2.2.2.2.2.1 ?_
    exact lR_undo0 hG hT h hum
  · have hun := hu.elim (fun q => q.2) (fun q => absurd h6 q.1)
    refine mm_aload_n rfl rfl ?_
    refine mm_getI (x := nI (u + 1)) rfl rfl rfl (by decide) rfl hun ?_
    refine mm_iconst (v := nI 1) rfl (by decide) ?_
    refine mm_isubN rfl (by omega) ?_
    refine mm_goto (tgt := 22) rfl (by decide) ?_
    rw [Nat.add_sub_cancel]
    exact lR_undo0 hG hT h hum
set_option maxRecDepth 100000 in
set_option maxHeartbeats 400000 in
theorem sR_undo1 {E : mm_E} {G : mm_G} {J : mm_J} (hG : mm_GI G) {n m : Nat} (hT : ed_RB J n m) {u a pu tk : Nat} (h1 : 1 ≤ u) (h2 : u ≤ m) (h3 : m < u + 20) (ha : J 79 (u % 20) = nI a) (hpu : J 81 (u % 20) = nI pu) (htk : J 80 (u % 20) = nI tk) (hat : a + tk ≤ 100) (hap : a + pu ≤ n) (hnt : n - pu + tk ≤ 100) (hu : (J 69 8 = nI 19 ∧ J 69 24 = nI (u + 1)) ∨ (¬ J 69 8 = nI 19 ∧ u = m)) : mm_Ret E qR_undo [.ref 69] 86 J G (some (.int (nI 0))) 86 (mm_set (mm_set (ed_RS (mm_cp (mm_set J 69 4 (nI tk)) 77 72 (u % 20 * 100 + a) 0 tk) n m a pu tk) 69 5 (nI (a + tk))) 69 24 (nI u)) G := by
  refine mm_Met.of qR_undo_ok (by decide) (mm_cats rfl) (Nat.le_of_ble_eq_true rfl) ?_
  have hm2 := hT.2.2.2.2.2.2
  refine mm_aload_n rfl rfl ?_
  refine mm_getI rfl rfl rfl (by decide) rfl rfl ?_
  refine mm_bipush (v := nI 19) rfl (by decide) ?_
  refine mm_icmp_ne (tgt := 18) rfl (by decide) (fun h6 => ?_) (fun h6 => ?_)
  · obtain rfl : m = u := (hu.elim (fun q => absurd q.1 h6) (fun q => q.2)).symm
    refine mm_aload_n rfl rfl ?_
    refine mm_getI (x := nI m) rfl rfl rfl (by decide) rfl hT.2.2.2.2.2.1 ?_
    exact lR_undo1 hG hT h1 h2 h3 ha hpu htk hat hap hnt
  · have hun := hu.elim (fun q => q.2) (fun q => absurd h6 q.1)
    refine mm_aload_n rfl rfl ?_
    refine mm_getI (x := nI (u + 1)) rfl rfl rfl (by decide) rfl hun ?_
    refine mm_iconst (v := nI 1) rfl (by decide) ?_
    refine mm_isubN rfl (by omega) ?_
    refine mm_goto (tgt := 22) rfl (by decide) ?_
    rw [Nat.add_sub_cancel]
    exact lR_undo1 hG hT h1 h2 h3 ha hpu htk hat hap hnt
set_option maxRecDepth 100000 in
set_option maxHeartbeats 400000 in
theorem lR_yank {E : mm_E} {G : mm_G} {J : mm_J} (hG : mm_GI G) {a d k s : Nat} {F : mm_F} (hk4 : k < 4) (hs : J 69 4 = nI s) (hs2 : s ≤ 100) (kk : mm_Go E qR_yank 68 [some (.ref 69), some (.int (nI a)), some (.int (nI d)), some (.int (nI k)), some (.int (nI s))] [] 86 (mm_cp J 75 72 (k * 100) 0 s) G 0 0 F) : ∀ (q i : Nat), s - i = q → i ≤ s → mm_Go E qR_yank 34 [some (.ref 69), some (.int (nI a)), some (.int (nI d)), some (.int (nI k)), some (.int (nI i))] [] 86 (mm_cp J 75 72 (k * 100) 0 i) G 0 0 F
  | 0, i, hq, hi => by
    refine mm_iload rfl rfl ?_
    refine mm_aload_n rfl rfl ?_
    refine mm_getI (x := nI s) rfl rfl rfl (by decide) rfl (by simp [mm_cp, hs]) ?_
    refine mm_icmp_geN (tgt := 68) rfl (by decide) (by omega) (by omega) (fun h40 => ?_) (fun h40 => ?_)
    · obtain rfl : s = i := by omega
      exact kk
    · exact absurd h40 (by omega)
  | q + 1, i, hq, hi => by
    refine mm_iload rfl rfl ?_
    refine mm_aload_n rfl rfl ?_
    refine mm_getI (x := nI s) rfl rfl rfl (by decide) rfl (by simp [mm_cp, hs]) ?_
    refine mm_icmp_geN (tgt := 68) rfl (by decide) (by omega) (by omega) (fun h40 => ?_) (fun h40 => ?_)
    · exact absurd h40 (by omega)
    · refine mm_aload_n rfl rfl ?_
      refine mm_getR rfl rfl rfl (by decide) rfl (mm_gi hG 69 2 72 (by decide)) ?_
      refine mm_iload rfl rfl ?_
      refine mm_aload_n rfl rfl ?_
      refine mm_getR rfl rfl rfl (by decide) rfl (mm_gi hG 69 12 75 (by decide)) ?_
      refine mm_iload_n rfl rfl ?_
      refine mm_bipush (v := nI 100) rfl (by decide) ?_
      refine mm_imulN rfl ?_
      refine mm_iload rfl rfl ?_
      refine mm_iaddN rfl ?_
      refine mm_rdN (x := J 75 (k * 100 + i)) rfl (by decide) rfl (by decide) (by omega) (by decide) rfl (by simp [mm_cp]) ?_
      refine mm_wrN rfl (by decide) rfl (by decide) (by omega) (by decide) rfl ?_
      refine mm_iincN rfl rfl (mm_inc1 _) (by decide) ?_
      refine mm_goto (tgt := 34) rfl (by decide) ?_
      have e := mm_cp_t J 75 72 (k * 100) 0 i
      rw [Nat.zero_add] at e
      rw [e]
      exact lR_yank hG hk4 hs hs2 kk q (i + 1) (by omega) (by omega)
set_option maxRecDepth 100000 in
set_option maxHeartbeats 400000 in
theorem sR_yank0 {E : mm_E} {G : mm_G} {J : mm_J} (hG : mm_GI G) {n m : Nat} (hT : ed_RB J n m) {a d k s : Nat} (hk4 : k < 4) (hs : J 76 k = nI s) (hs2 : s ≤ 100) (had : a + d ≤ n) (h : 100 < n - d + s) : mm_Ret E qR_yank [.ref 69, .int (nI a), .int (nI d), .int (nI k)] 86 J G (some (.int (-3))) 86 J G := by
  refine mm_Met.of qR_yank_ok (by decide) (mm_cats rfl) (Nat.le_of_ble_eq_true rfl) ?_
  have hn2 := hT.2.1
  refine mm_aload_n rfl rfl ?_
  refine mm_getI (x := nI n) rfl rfl rfl (by decide) rfl hT.1 ?_
  refine mm_iload_n rfl rfl ?_
  refine mm_isubN rfl (by omega) ?_
  refine mm_aload_n rfl rfl ?_
  refine mm_getR rfl rfl rfl (by decide) rfl (mm_gi hG 69 13 76 (by decide)) ?_
  refine mm_iload_n rfl rfl ?_
  refine mm_rdN rfl (by decide) rfl (by decide) (by omega) (by decide) rfl hs ?_
  refine mm_iaddN rfl ?_
  refine mm_bipush (v := nI 100) rfl (by decide) ?_
  refine mm_icmp_leN (tgt := 21) rfl (by decide) (by omega) (by omega) (fun h15 => ?_) (fun h15 => ?_)
  · exact absurd h15 (by omega)
  · refine mm_bipush (v := -3) rfl (by decide) ?_
    refine mm_ireturn rfl rfl rfl (by decide) (by decide) ?_
    exact ⟨rfl, rfl, rfl, rfl⟩
set_option maxRecDepth 100000 in
set_option maxHeartbeats 400000 in
theorem sR_yank1 {E : mm_E} {G : mm_G} {J : mm_J} (hG : mm_GI G) {n m : Nat} (hT : ed_RB J n m) {a d k s : Nat} (hk4 : k < 4) (hs : J 76 k = nI s) (hs2 : s ≤ 100) (had : a + d ≤ n) (h : n - d + s ≤ 100) : mm_Ret E qR_yank [.ref 69, .int (nI a), .int (nI d), .int (nI k)] 86 J G (some (.int (nI 0))) 86 (mm_set (mm_set (mm_set (mm_set (mm_set (ed_RS (mm_cp (mm_set J 69 4 (nI s)) 75 72 (k * 100) 0 s) n m a d s) 69 5 (nI (a + s))) 69 6 (nI a)) 69 15 (nI a)) 69 16 (nI s)) 69 17 (nI k)) G := by
  refine mm_Met.of qR_yank_ok (by decide) (mm_cats rfl) (Nat.le_of_ble_eq_true rfl) ?_
  have hn2 := hT.2.1
  refine mm_aload_n rfl rfl ?_
  refine mm_getI (x := nI n) rfl rfl rfl (by decide) rfl hT.1 ?_
  refine mm_iload_n rfl rfl ?_
  refine mm_isubN rfl (by omega) ?_
  refine mm_aload_n rfl rfl ?_
  refine mm_getR rfl rfl rfl (by decide) rfl (mm_gi hG 69 13 76 (by decide)) ?_
  refine mm_iload_n rfl rfl ?_
  refine mm_rdN rfl (by decide) rfl (by decide) (by omega) (by decide) rfl hs ?_
  refine mm_iaddN rfl ?_
  refine mm_bipush (v := nI 100) rfl (by decide) ?_
  refine mm_icmp_leN (tgt := 21) rfl (by decide) (by omega) (by omega) (fun h15 => ?_) (fun h15 => ?_)
  · refine mm_aload_n rfl rfl ?_
    refine mm_aload_n rfl rfl ?_
    refine mm_getR rfl rfl rfl (by decide) rfl (mm_gi hG 69 13 76 (by decide)) ?_
    refine mm_iload_n rfl rfl ?_
    refine mm_rdN rfl (by decide) rfl (by decide) (by omega) (by decide) rfl hs ?_
    refine mm_putI rfl rfl rfl (by decide) rfl (Or.inl rfl) rfl rfl ?_
    refine mm_iconst (v := nI 0) rfl (by decide) ?_
    refine mm_istore rfl (by decide) ?_
    refine mm_J_eq (mm_cp_0 _ 75 72 (k * 100) 0).symm (lR_yank (J := mm_set J 69 4 (nI s)) hG hk4 (by simp [mm_set]) hs2 ?_ s 0 rfl (by omega))
    refine mm_aload_n rfl rfl ?_
    refine mm_iload_n rfl rfl ?_
    refine mm_iload_n rfl rfl ?_
    refine mm_isV2 (M2 := qR_step) wd_645 qR_step_k (by decide) (sR_step (J := (mm_cp (mm_set J 69 4 (nI s)) 75 72 (k * 100) 0 s)) (s := s) hG (hT.ri (fun k hk => by simp [mm_set, mm_cp, hk]) rfl rfl (by simp [mm_set, mm_cp]) hs2) had h) rfl (by decide) (Nat.le_of_ble_eq_true rfl) (by decide) (by decide) rfl (by decide) ?_
    refine mm_aload_n rfl rfl ?_
    refine mm_iload_n rfl rfl ?_
    refine mm_aload_n rfl rfl ?_
    refine mm_getI (x := nI s) rfl rfl rfl (by decide) rfl ((ed_RS_f (by decide)).trans (by simp [mm_set, mm_cp])) ?_
    refine mm_iaddN rfl ?_
    refine mm_putI rfl rfl rfl (by decide) rfl (Or.inl rfl) rfl rfl ?_
    refine mm_aload_n rfl rfl ?_
    refine mm_iload_n rfl rfl ?_
    refine mm_putI rfl rfl rfl (by decide) rfl (Or.inl rfl) rfl rfl ?_
    refine mm_aload_n rfl rfl ?_
    refine mm_iload_n rfl rfl ?_
    refine mm_putI rfl rfl rfl (by decide) rfl (Or.inl rfl) rfl rfl ?_
    refine mm_aload_n rfl rfl ?_
    refine mm_aload_n rfl rfl ?_
    refine mm_getI (x := nI s) rfl rfl rfl (by decide) rfl (by simp only [mm_set]; simp; exact (ed_RS_f (by decide)).trans (by simp [mm_set, mm_cp])) ?_
    refine mm_putI rfl rfl rfl (by decide) rfl (Or.inl rfl) rfl rfl ?_
    refine mm_aload_n rfl rfl ?_
    refine mm_iload_n rfl rfl ?_
    refine mm_putI rfl rfl rfl (by decide) rfl (Or.inl rfl) rfl rfl ?_
    refine mm_iconst (v := nI 0) rfl (by decide) ?_
    refine mm_ireturn rfl rfl rfl (by decide) (by decide) ?_
    exact ⟨rfl, rfl, rfl, rfl⟩
  · exact absurd h15 (by omega)
set_option maxRecDepth 100000 in
set_option maxHeartbeats 400000 in
theorem lR_srI {E : mm_E} {G : mm_G} {J : mm_J} (hG : mm_GI G) {n l : Nat} (hn : J 69 3 = nI n) (hn2 : n ≤ 100) (hl : J 76 0 = nI l) (hl2 : l ≤ 100) {p : Nat} {F : mm_F} (hpl : p + l ≤ n) (kk : mm_Go E qR_search 69 [some (.ref 69), some (.int (nI p)), some (.int (nI (ed_b (ed_at (J 70) (J 75) p l)))), some (.int (nI l))] [] 86 J G 0 0 F) : ∀ (q i : Nat), l - i = q → i ≤ l → mm_Go E qR_search 34 [some (.ref 69), some (.int (nI p)), some (.int (nI (ed_b (ed_at (J 70) (J 75) p i)))), some (.int (nI i))] [] 86 J G 0 0 F
  | 0, i, hq, hi => by
    refine mm_iload_n rfl rfl ?_
    refine mm_aload_n rfl rfl ?_
    refine mm_getR rfl rfl rfl (by decide) rfl (mm_gi hG 69 13 76 (by decide)) ?_
    refine mm_iconst (v := nI 0) rfl (by decide) ?_
    refine mm_rdN rfl (by decide) rfl (by decide) (by decide) (by decide) rfl hl ?_
    refine mm_icmp_geN (tgt := 69) rfl (by decide) (by omega) (by omega) (fun h41 => ?_) (fun h41 => ?_)
    · obtain rfl : l = i := by omega
      exact kk
    · exact absurd h41 (by omega)
  | q + 1, i, hq, hi => by
    refine mm_iload_n rfl rfl ?_
    refine mm_aload_n rfl rfl ?_
    refine mm_getR rfl rfl rfl (by decide) rfl (mm_gi hG 69 13 76 (by decide)) ?_
    refine mm_iconst (v := nI 0) rfl (by decide) ?_
    refine mm_rdN rfl (by decide) rfl (by decide) (by decide) (by decide) rfl hl ?_
    refine mm_icmp_geN (tgt := 69) rfl (by decide) (by omega) (by omega) (fun h41 => ?_) (fun h41 => ?_)
    · exact absurd h41 (by omega)
    · refine mm_aload_n rfl rfl ?_
      refine mm_getR rfl rfl rfl (by decide) rfl (mm_gi hG 69 0 70 (by decide)) ?_
      refine mm_iload_n rfl rfl ?_
      refine mm_iload_n rfl rfl ?_
      refine mm_iaddN rfl ?_
      refine mm_rdN rfl (by decide) rfl (by decide) (by omega) (by decide) rfl rfl ?_
      refine mm_aload_n rfl rfl ?_
      refine mm_getR rfl rfl rfl (by decide) rfl (mm_gi hG 69 12 75 (by decide)) ?_
      refine mm_iload_n rfl rfl ?_
      refine mm_rdN rfl (by decide) rfl (by decide) (by omega) (by decide) rfl rfl ?_
      refine mm_icmp_eq (tgt := 63) rfl (by decide) (fun h58 => ?_) (fun h58 => ?_)
      · refine mm_iincN rfl rfl (mm_inc1 _) (by decide) ?_
        refine mm_goto (tgt := 34) rfl (by decide) ?_
        have K := lR_srI (E := E) hG hn hn2 hl hl2 hpl kk q (i + 1) (by omega) (by omega)
        rw [ed_at_s, decide_eq_true h58, Bool.and_true] at K
        exact K
      · refine mm_iconst (v := nI 0) rfl (by decide) ?_
        refine mm_istore_n rfl (by decide) ?_
        refine mm_iincN rfl rfl (mm_inc1 _) (by decide) ?_
        refine mm_goto (tgt := 34) rfl (by decide) ?_
        have K := lR_srI (E := E) hG hn hn2 hl hl2 hpl kk q (i + 1) (by omega) (by omega)
        rw [ed_at_s, decide_eq_false h58, Bool.and_false] at K
        exact K
def ed_srK (J : mm_J) (l : Nat) : Option Nat → mm_J
  | none => J
  | some q => mm_set J 69 5 (nI (q + l))
set_option maxRecDepth 100000 in
set_option maxHeartbeats 400000 in
theorem lR_search {E : mm_E} {G : mm_G} {J : mm_J} (hG : mm_GI G) {n l : Nat} (hn : J 69 3 = nI n) (hn2 : n ≤ 100) (hl : J 76 0 = nI l) (hl2 : l ≤ 100) : ∀ (k p : Nat) (z1 z2 : Option Value), n + 1 - (p + l) = k → p ≤ 101 → mm_Go E qR_search 15 [some (.ref 69), some (.int (nI p)), z1, z2] [] 86 J G 0 0 (mm_Fm E qR_search (mm_is (some (.int (ed_srR (ed_sr (J 70) (J 75) l k p)))) 86 (ed_srK J l (ed_sr (J 70) (J 75) l k p)) G))
  | 0, p, z1, z2, hk, hp => by
    refine mm_iload_n rfl rfl ?_
    refine mm_aload_n rfl rfl ?_
    refine mm_getR rfl rfl rfl (by decide) rfl (mm_gi hG 69 13 76 (by decide)) ?_
    refine mm_iconst (v := nI 0) rfl (by decide) ?_
    refine mm_rdN rfl (by decide) rfl (by decide) (by decide) (by decide) rfl hl ?_
    refine mm_iaddN rfl ?_
    refine mm_aload_n rfl rfl ?_
    refine mm_getI (x := nI n) rfl rfl rfl (by decide) rfl hn ?_
    refine mm_icmp_gtN (tgt := 96) rfl (by decide) (by omega) (by omega) (fun h27 => ?_) (fun h27 => ?_)
    · refine mm_bipush (v := -2) rfl (by decide) ?_
      refine mm_ireturn rfl rfl rfl (by decide) (by decide) ?_
      exact ⟨rfl, rfl, rfl, rfl⟩
    · exact absurd h27 (by omega)
  | k + 1, p, z1, z2, hk, hp => by
    refine mm_iload_n rfl rfl ?_
    refine mm_aload_n rfl rfl ?_
    refine mm_getR rfl rfl rfl (by decide) rfl (mm_gi hG 69 13 76 (by decide)) ?_
    refine mm_iconst (v := nI 0) rfl (by decide) ?_
    refine mm_rdN rfl (by decide) rfl (by decide) (by decide) (by decide) rfl hl ?_
    refine mm_iaddN rfl ?_
    refine mm_aload_n rfl rfl ?_
    refine mm_getI (x := nI n) rfl rfl rfl (by decide) rfl hn ?_
    refine mm_icmp_gtN (tgt := 96) rfl (by decide) (by omega) (by omega) (fun h27 => ?_) (fun h27 => ?_)
    · exact absurd h27 (by omega)
    · refine mm_iconst (v := nI 1) rfl (by decide) ?_
      refine mm_istore_n rfl (by decide) ?_
      refine mm_iconst (v := nI 0) rfl (by decide) ?_
      refine mm_istore_n rfl (by decide) ?_
      refine lR_srI hG hn hn2 hl hl2 h27 ?_ l 0 rfl (by omega)
      refine mm_iload_n rfl rfl ?_
      refine mm_if_neN (tgt := 76) rfl (by decide) (ed_b31 _) (fun h70 => ?_) (fun h70 => ?_)
      · rw [show ed_sr (J 70) (J 75) l (k + 1) p = some p from by rw [ed_sr, if_pos (ed_bne h70)]]
        refine mm_aload_n rfl rfl ?_
        refine mm_iload_n rfl rfl ?_
        refine mm_aload_n rfl rfl ?_
        refine mm_getR rfl rfl rfl (by decide) rfl (mm_gi hG 69 13 76 (by decide)) ?_
        refine mm_iconst (v := nI 0) rfl (by decide) ?_
        refine mm_rdN rfl (by decide) rfl (by decide) (by decide) (by decide) rfl hl ?_
        refine mm_iaddN rfl ?_
        refine mm_putI rfl rfl rfl (by decide) rfl (Or.inl rfl) rfl rfl ?_
        refine mm_iconst (v := nI 0) rfl (by decide) ?_
        refine mm_ireturn rfl rfl rfl (by decide) (by decide) ?_
        exact ⟨rfl, rfl, rfl, rfl⟩
      · rw [show ed_sr (J 70) (J 75) l (k + 1) p = ed_sr (J 70) (J 75) l k (p + 1) from by rw [ed_sr, if_neg (by rw [ed_beq h70]; decide)]]
        refine mm_goto (tgt := 90) rfl (by decide) ?_
        refine mm_iincN rfl rfl (mm_inc1 _) (by decide) ?_
        refine mm_goto (tgt := 15) rfl (by decide) ?_
        exact lR_search hG hn hn2 hl hl2 k (p + 1) _ _ (by omega) (by omega)
set_option maxRecDepth 100000 in
set_option maxHeartbeats 400000 in
theorem sR_search0 {E : mm_E} {G : mm_G} {J : mm_J} (hc : J 69 14 = nI 0) : mm_Ret E qR_search [.ref 69] 86 J G (some (.int (-2))) 86 J G := by
  refine mm_Met.of qR_search_ok (by decide) (mm_cats rfl) (Nat.le_of_ble_eq_true rfl) ?_
  refine mm_aload_n rfl rfl ?_
  refine mm_getI (x := nI 0) rfl rfl rfl (by decide) rfl hc ?_
  refine mm_if_neN (tgt := 10) rfl (by decide) (by decide) (fun h4 => ?_) (fun h4 => ?_)
  · exact absurd rfl h4
  · refine mm_bipush (v := -2) rfl (by decide) ?_
    refine mm_ireturn rfl rfl rfl (by decide) (by decide) ?_
    exact ⟨rfl, rfl, rfl, rfl⟩
set_option maxRecDepth 100000 in
set_option maxHeartbeats 400000 in
theorem sR_search1 {E : mm_E} {G : mm_G} {J : mm_J} (hG : mm_GI G) {n l : Nat} (hn : J 69 3 = nI n) (hn2 : n ≤ 100) (hl : J 76 0 = nI l) (hl2 : l ≤ 100) {c q : Nat} (hc : J 69 14 = nI c) (hc1 : 0 < c) (hc2 : c ≤ 4) (hp : J 69 5 = nI q) (hq : q ≤ n) : mm_Ret E qR_search [.ref 69] 86 J G (some (.int (ed_srR (ed_sr (J 70) (J 75) l (n + 1 - (q + l)) q)))) 86 (ed_srK J l (ed_sr (J 70) (J 75) l (n + 1 - (q + l)) q)) G := by
  refine mm_Met.of qR_search_ok (by decide) (mm_cats rfl) (Nat.le_of_ble_eq_true rfl) ?_
  refine mm_aload_n rfl rfl ?_
  refine mm_getI (x := nI c) rfl rfl rfl (by decide) rfl hc ?_
  refine mm_if_neN (tgt := 10) rfl (by decide) (by omega) (fun h4 => ?_) (fun h4 => ?_)
  · refine mm_aload_n rfl rfl ?_
    refine mm_getI (x := nI q) rfl rfl rfl (by decide) rfl hp ?_
    refine mm_istore_n rfl (by decide) ?_
    exact lR_search hG hn hn2 hl hl2 _ q none none rfl (by omega)
  · exact absurd h4 (by omega)
end
section
def ed_sh1 (J : mm_J) (k : Nat) : mm_J := mm_cp (mm_set J 76 k (J 76 (k - 1))) 75 75 (k * 100 - 100) (k * 100) 100
def ed_shift (J : mm_J) : mm_J := mm_set (ed_sh1 (ed_sh1 (ed_sh1 J 3) 2) 1) 76 0 (nI 0)
theorem mm_cp_rd {J : mm_J} {b sp dp i k : Nat} (h : k < dp ∨ dp + i ≤ k) : mm_cp J b b sp dp i b k = J b k := by
  unfold mm_cp va_cpy
  simp [show ¬ (dp ≤ k ∧ k < dp + i) by omega]
theorem ed_sh1_o {J : mm_J} {k a : Nat} (h : ¬ a = 75 ∧ ¬ a = 76) : ed_sh1 J k a = J a := by
  funext b
  simp [ed_sh1, mm_cp, mm_set, h.1, h.2]
theorem ed_shift_o {J : mm_J} {a : Nat} (h : ¬ a = 75 ∧ ¬ a = 76) : ed_shift J a = J a := by
  unfold ed_shift
  rw [mm_set_ne _ _ _ h.2, ed_sh1_o h, ed_sh1_o h, ed_sh1_o h]
set_option maxRecDepth 100000 in
set_option maxHeartbeats 400000 in
theorem lR_keepI {E : mm_E} {G : mm_G} {J : mm_J} (hG : mm_GI G) {a d k : Nat} {F : mm_F} (hk1 : 1 ≤ k) (hk3 : k ≤ 3) (kk : mm_Go E qR_keep 91 [some (.ref 69), some (.int (nI a)), some (.int (nI d)), some (.int (nI 0)), some (.int (nI k)), some (.int (nI 100))] [] 86 (mm_cp J 75 75 (k * 100 - 100) (k * 100) 100) G 0 0 F) : ∀ (q i : Nat), 100 - i = q → i ≤ 100 → mm_Go E qR_keep 49 [some (.ref 69), some (.int (nI a)), some (.int (nI d)), some (.int (nI 0)), some (.int (nI k)), some (.int (nI i))] [] 86 (mm_cp J 75 75 (k * 100 - 100) (k * 100) i) G 0 0 F
  | 0, i, hq, hi => by
    refine mm_iload rfl rfl ?_
    refine mm_bipush (v := nI 100) rfl (by decide) ?_
    refine mm_icmp_geN (tgt := 91) rfl (by decide) (by omega) (by omega) (fun h53 => ?_) (fun h53 => ?_)
    · obtain rfl : 100 = i := by omega
      exact kk
    · exact absurd h53 (by omega)
  | q + 1, i, hq, hi => by
    refine mm_iload rfl rfl ?_
    refine mm_bipush (v := nI 100) rfl (by decide) ?_
    refine mm_icmp_geN (tgt := 91) rfl (by decide) (by omega) (by omega) (fun h53 => ?_) (fun h53 => ?_)
    · exact absurd h53 (by omega)
    · refine mm_aload_n rfl rfl ?_
      refine mm_getR rfl rfl rfl (by decide) rfl (mm_gi hG 69 12 75 (by decide)) ?_
      refine mm_iload rfl rfl ?_
      refine mm_bipush (v := nI 100) rfl (by decide) ?_
      refine mm_imulN rfl ?_
      refine mm_iload rfl rfl ?_
      refine mm_iaddN rfl ?_
      refine mm_aload_n rfl rfl ?_
      refine mm_getR rfl rfl rfl (by decide) rfl (mm_gi hG 69 12 75 (by decide)) ?_
      refine mm_iload rfl rfl ?_
      refine mm_bipush (v := nI 100) rfl (by decide) ?_
      refine mm_imulN rfl ?_
      refine mm_bipush (v := nI 100) rfl (by decide) ?_
      refine mm_isubN rfl (by omega) ?_
      refine mm_iload rfl rfl ?_
      refine mm_iaddN rfl ?_
      refine mm_rdN (x := J 75 (k * 100 - 100 + i)) rfl (by decide) rfl (by decide) (by omega) (by decide) rfl (mm_cp_rd (by omega)) ?_
      refine mm_wrN rfl (by decide) rfl (by decide) (by omega) (by decide) rfl ?_
      refine mm_iincN rfl rfl (mm_inc1 _) (by decide) ?_
      refine mm_goto (tgt := 49) rfl (by decide) ?_
      rw [mm_cp_t]
      exact lR_keepI hG hk1 hk3 kk q (i + 1) (by omega) (by omega)
set_option maxRecDepth 100000 in
set_option maxHeartbeats 400000 in
theorem lR_keepO {E : mm_E} {G : mm_G} {J : mm_J} (hG : mm_GI G) {a d k : Nat} {z : Option Value} {F : mm_F} (hk1 : 1 ≤ k) (hk3 : k ≤ 3) (kk : mm_Go E qR_keep 25 [some (.ref 69), some (.int (nI a)), some (.int (nI d)), some (.int (nI 0)), some (.int (nI (k - 1))), some (.int (nI 100))] [] 86 (ed_sh1 J k) G 0 0 F) : mm_Go E qR_keep 25 [some (.ref 69), some (.int (nI a)), some (.int (nI d)), some (.int (nI 0)), some (.int (nI k)), z] [] 86 J G 0 0 F := by
  refine mm_iload rfl rfl ?_
  refine mm_if_leN (tgt := 97) rfl (by decide) (by omega) (fun h27 => ?_) (fun h27 => ?_)
  · exact absurd h27 (by omega)
  · refine mm_aload_n rfl rfl ?_
    refine mm_getR rfl rfl rfl (by decide) rfl (mm_gi hG 69 13 76 (by decide)) ?_
    refine mm_iload rfl rfl ?_
    refine mm_aload_n rfl rfl ?_
    refine mm_getR rfl rfl rfl (by decide) rfl (mm_gi hG 69 13 76 (by decide)) ?_
    refine mm_iload rfl rfl ?_
    refine mm_iconst (v := nI 1) rfl (by decide) ?_
    refine mm_isubN rfl (by omega) ?_
    refine mm_rdN rfl (by decide) rfl (by decide) (by omega) (by decide) rfl rfl ?_
    refine mm_wrN rfl (by decide) rfl (by decide) (by omega) (by decide) rfl ?_
    refine mm_iconst (v := nI 0) rfl (by decide) ?_
    refine mm_istore rfl (by decide) ?_
    refine mm_J_eq (mm_cp_0 _ 75 75 (k * 100 - 100) (k * 100)).symm (lR_keepI (J := mm_set J 76 k (J 76 (k - 1))) hG hk1 hk3 ?_ 100 0 rfl (by omega))
    refine mm_iincN rfl rfl (mm_dec1 (by omega)) (by decide) ?_
    refine mm_goto (tgt := 25) rfl (by decide) ?_
    exact kk
set_option maxRecDepth 100000 in
set_option maxHeartbeats 400000 in
theorem lR_keepA {E : mm_E} {G : mm_G} {J : mm_J} (hG : mm_GI G) {a d l bh : Nat} (hl : J 76 0 = nI l) (hld : l + d ≤ 100) (had : a + d ≤ 100) : ∀ (q i : Nat) (z : Option Value), d - i = q → i ≤ d → mm_Go E qR_keep 107 [some (.ref 69), some (.int (nI a)), some (.int (nI d)), some (.int (nI bh)), some (.int (nI i)), z] [] 86 (mm_cp J 70 75 a l i) G 0 0 (mm_Fm E qR_keep (mm_is none 86 (mm_set (mm_cp J 70 75 a l d) 76 0 (nI (l + d))) G))
  | 0, i, z, hq, hi => by
    refine mm_iload rfl rfl ?_
    refine mm_iload_n rfl rfl ?_
    refine mm_icmp_geN (tgt := 142) rfl (by decide) (by omega) (by omega) (fun h110 => ?_) (fun h110 => ?_)
    · refine mm_aload_n rfl rfl ?_
      refine mm_getR rfl rfl rfl (by decide) rfl (mm_gi hG 69 13 76 (by decide)) ?_
      refine mm_iconst (v := nI 0) rfl (by decide) ?_
      refine mm_dup2 rfl rfl rfl ?_
      refine mm_rdN (x := nI l) rfl (by decide) rfl (by decide) (by decide) (by decide) rfl (by simp [mm_cp, hl]) ?_
      refine mm_iload_n rfl rfl ?_
      refine mm_iaddN rfl ?_
      refine mm_wrN rfl (by decide) rfl (by decide) (by decide) (by decide) rfl ?_
      refine mm_return rfl rfl (by decide) (by decide) ?_
      exact ⟨rfl, rfl, by rw [show i = d by omega], rfl⟩
    · exact absurd h110 (by omega)
  | q + 1, i, z, hq, hi => by
    refine mm_iload rfl rfl ?_
    refine mm_iload_n rfl rfl ?_
    refine mm_icmp_geN (tgt := 142) rfl (by decide) (by omega) (by omega) (fun h110 => ?_) (fun h110 => ?_)
    · exact absurd h110 (by omega)
    · refine mm_aload_n rfl rfl ?_
      refine mm_getR rfl rfl rfl (by decide) rfl (mm_gi hG 69 12 75 (by decide)) ?_
      refine mm_aload_n rfl rfl ?_
      refine mm_getR rfl rfl rfl (by decide) rfl (mm_gi hG 69 13 76 (by decide)) ?_
      refine mm_iconst (v := nI 0) rfl (by decide) ?_
      refine mm_rdN (x := nI l) rfl (by decide) rfl (by decide) (by decide) (by decide) rfl (by simp [mm_cp, hl]) ?_
      refine mm_iload rfl rfl ?_
      refine mm_iaddN rfl ?_
      refine mm_aload_n rfl rfl ?_
      refine mm_getR rfl rfl rfl (by decide) rfl (mm_gi hG 69 0 70 (by decide)) ?_
      refine mm_iload_n rfl rfl ?_
      refine mm_iload rfl rfl ?_
      refine mm_iaddN rfl ?_
      refine mm_rdN (x := J 70 (a + i)) rfl (by decide) rfl (by decide) (by omega) (by decide) rfl (by simp [mm_cp]) ?_
      refine mm_wrN rfl (by decide) rfl (by decide) (by omega) (by decide) rfl ?_
      refine mm_iincN rfl rfl (mm_inc1 _) (by decide) ?_
      refine mm_goto (tgt := 107) rfl (by decide) ?_
      rw [mm_cp_t]
      exact lR_keepA hG hl hld had q (i + 1) z (by omega) (by omega)
set_option maxRecDepth 100000 in
set_option maxHeartbeats 400000 in
theorem sR_keep1 {E : mm_E} {G : mm_G} {J : mm_J} (hG : mm_GI G) {a d l : Nat} (hl : J 76 0 = nI l) (hld : l + d ≤ 100) (had : a + d ≤ 100) : mm_Ret E qR_keep [.ref 69, .int (nI a), .int (nI d), .int (nI 1)] 86 J G none 86 (mm_set (mm_cp J 70 75 a l d) 76 0 (nI (l + d))) G := by
  refine mm_Met.of qR_keep_ok (by decide) (mm_cats rfl) (Nat.le_of_ble_eq_true rfl) ?_
  refine mm_iload_n rfl rfl ?_
  refine mm_if_neN (tgt := 104) rfl (by decide) (by decide) (fun h1 => ?_) (fun h1 => ?_)
  · refine mm_iconst (v := nI 0) rfl (by decide) ?_
    refine mm_istore rfl (by decide) ?_
    exact mm_J_eq (mm_cp_0 J 70 75 a l).symm (lR_keepA hG hl hld had d 0 _ rfl (by omega))
  · exact absurd h1 (by decide)
set_option maxRecDepth 100000 in
set_option maxHeartbeats 400000 in
theorem sR_keep0 {E : mm_E} {G : mm_G} {J : mm_J} (hG : mm_GI G) {a d c : Nat} (hc : J 69 14 = nI c) (hc2 : c ≤ 4) (had : a + d ≤ 100) : mm_Ret E qR_keep [.ref 69, .int (nI a), .int (nI d), .int (nI 0)] 86 J G none 86 (mm_set (mm_cp (ed_shift (mm_set J 69 14 (nI (min (c + 1) 4)))) 70 75 a 0 d) 76 0 (nI (0 + d))) G := by
  refine mm_Met.of qR_keep_ok (by decide) (mm_cats rfl) (Nat.le_of_ble_eq_true rfl) ?_
  refine mm_iload_n rfl rfl ?_
  refine mm_if_neN (tgt := 104) rfl (by decide) (by decide) (fun h1 => ?_) (fun h1 => ?_)
  · exact absurd rfl h1
  · refine mm_aload_n rfl rfl ?_
    refine mm_getI (x := nI c) rfl rfl rfl (by decide) rfl hc ?_
    refine mm_iconst (v := nI 4) rfl (by decide) ?_
    refine mm_icmp_geN (tgt := 22) rfl (by decide) (by omega) (by omega) (fun h9 => ?_) (fun h9 => ?_)
    · refine mm_iconst (v := nI 3) rfl (by decide) ?_
      refine mm_istore rfl (by decide) ?_
      refine mm_J_eq (J2 := mm_set J 69 14 (nI (min (c + 1) 4))) (mm_set_self (by rw [hc]; congr 1; omega)).symm ?_
      refine lR_keepO (k := 3) hG (by decide) (by decide) ?_
      refine lR_keepO (k := 3 - 1) hG (by decide) (by decide) ?_
      refine lR_keepO (k := 3 - 1 - 1) hG (by decide) (by decide) ?_
      refine mm_iload rfl rfl ?_
      refine mm_if_leN (tgt := 97) rfl (by decide) (by decide) (fun _ => ?_) (fun h => absurd h (by decide))
      refine mm_aload_n rfl rfl ?_
      refine mm_getR rfl rfl rfl (by decide) rfl (mm_gi hG 69 13 76 (by decide)) ?_
      refine mm_iconst (v := nI 0) rfl (by decide) ?_
      refine mm_iconst (v := nI 0) rfl (by decide) ?_
      refine mm_wrN rfl (by decide) rfl (by decide) (by decide) (by decide) rfl ?_
      refine mm_iconst (v := nI 0) rfl (by decide) ?_
      refine mm_istore rfl (by decide) ?_
      exact mm_J_eq (mm_cp_0 _ 70 75 a 0).symm (lR_keepA (J := (ed_shift (mm_set J 69 14 (nI (min (c + 1) 4))))) (l := 0) hG (by simp [ed_shift, mm_set]) (by omega) had d 0 _ rfl (by omega))
    · refine mm_aload_n rfl rfl ?_
      refine mm_dup rfl rfl ?_
      refine mm_getI (x := nI c) rfl rfl rfl (by decide) rfl hc ?_
      refine mm_iconst (v := nI 1) rfl (by decide) ?_
      refine mm_iaddN rfl ?_
      refine mm_putI rfl rfl rfl (by decide) rfl (Or.inl rfl) rfl rfl ?_
      refine mm_iconst (v := nI 3) rfl (by decide) ?_
      refine mm_istore rfl (by decide) ?_
      refine mm_J_eq (J2 := mm_set J 69 14 (nI (min (c + 1) 4))) (by rw [show min (c + 1) 4 = c + 1 by omega]) ?_
      refine lR_keepO (k := 3) hG (by decide) (by decide) ?_
      refine lR_keepO (k := 3 - 1) hG (by decide) (by decide) ?_
      refine lR_keepO (k := 3 - 1 - 1) hG (by decide) (by decide) ?_
      refine mm_iload rfl rfl ?_
      refine mm_if_leN (tgt := 97) rfl (by decide) (by decide) (fun _ => ?_) (fun h => absurd h (by decide))
      refine mm_aload_n rfl rfl ?_
      refine mm_getR rfl rfl rfl (by decide) rfl (mm_gi hG 69 13 76 (by decide)) ?_
      refine mm_iconst (v := nI 0) rfl (by decide) ?_
      refine mm_iconst (v := nI 0) rfl (by decide) ?_
      refine mm_wrN rfl (by decide) rfl (by decide) (by decide) (by decide) rfl ?_
      refine mm_iconst (v := nI 0) rfl (by decide) ?_
      refine mm_istore rfl (by decide) ?_
      exact mm_J_eq (mm_cp_0 _ 70 75 a 0).symm (lR_keepA (J := (ed_shift (mm_set J 69 14 (nI (min (c + 1) 4))))) (l := 0) hG (by simp [ed_shift, mm_set]) (by omega) had d 0 _ rfl (by omega))
def ed_kd (f : Nat → Int32) (n q : Nat) : Nat := if q < ed_le f n q then ed_le f n q - q else if q < n then 1 else 0
set_option maxRecDepth 100000 in
set_option maxHeartbeats 400000 in
theorem sR_killLine0 {E : mm_E} {G : mm_G} {J : mm_J} (hG : mm_GI G) {n q : Nat} (hn : J 69 3 = nI n) (hn2 : n ≤ 100) (hp : J 69 5 = nI q) (hq : q ≤ n) (h0 : ed_kd (J 70) n q = 0) : mm_Ret E qR_killLine [.ref 69] 86 J G (some (.int (-2))) 86 J G := by
  refine mm_Met.of qR_killLine_ok (by decide) (mm_cats rfl) (Nat.le_of_ble_eq_true rfl) ?_
  have hle := ed_le_le (f := J 70) hq
  refine mm_aload_n rfl rfl ?_
  refine mm_aload_n rfl rfl ?_
  refine mm_getI (x := nI q) rfl rfl rfl (by decide) rfl hp ?_
  refine mm_isV1 (M2 := qR_lineEnd) wd_685 qR_lineEnd_k (by decide) (sR_lineEnd hG hn hn2 hq) rfl (by decide) (Nat.le_of_ble_eq_true rfl) (by decide) (by decide) rfl (by decide) ?_
  refine mm_istore_n rfl (by decide) ?_
  refine mm_iload_n rfl rfl ?_
  refine mm_aload_n rfl rfl ?_
  refine mm_getI (x := nI q) rfl rfl rfl (by decide) rfl hp ?_
  refine mm_icmp_leN (tgt := 26) rfl (by decide) (by omega) (by omega) (fun h14 => ?_) (fun h14 => ?_)
  · refine mm_aload_n rfl rfl ?_
    refine mm_getI (x := nI q) rfl rfl rfl (by decide) rfl hp ?_
    refine mm_aload_n rfl rfl ?_
    refine mm_getI (x := nI n) rfl rfl rfl (by decide) rfl hn ?_
    refine mm_icmp_geN (tgt := 41) rfl (by decide) (by omega) (by omega) (fun h34 => ?_) (fun h34 => ?_)
    · refine mm_iconst (v := nI 0) rfl (by decide) ?_
      rw [show ed_kd (J 70) n q = 0 from by rw [ed_kd, if_neg (by omega), if_neg (by omega)]] at *
      refine mm_istore_n rfl (by decide) ?_
      refine mm_iload_n rfl rfl ?_
      refine mm_if_neN (tgt := 50) rfl (by decide) (by omega) (fun h44 => ?_) (fun h44 => ?_)
      · exact absurd (by omega) h44
      · refine mm_bipush (v := -2) rfl (by decide) ?_
        refine mm_ireturn rfl rfl rfl (by decide) (by decide) ?_
        exact ⟨rfl, rfl, rfl, rfl⟩
    · refine mm_iconst (v := nI 1) rfl (by decide) ?_
      refine mm_goto (tgt := 42) rfl (by decide) ?_
      rw [show ed_kd (J 70) n q = 1 from by rw [ed_kd, if_neg (by omega), if_pos (by omega)]] at *
      refine mm_istore_n rfl (by decide) ?_
      refine mm_iload_n rfl rfl ?_
      refine mm_if_neN (tgt := 50) rfl (by decide) (by omega) (fun h44 => ?_) (fun h44 => ?_)
      · exact absurd (by omega) h44
      · refine mm_bipush (v := -2) rfl (by decide) ?_
        refine mm_ireturn rfl rfl rfl (by decide) (by decide) ?_
        exact ⟨rfl, rfl, rfl, rfl⟩
  · refine mm_iload_n rfl rfl ?_
    refine mm_aload_n rfl rfl ?_
    refine mm_getI (x := nI q) rfl rfl rfl (by decide) rfl hp ?_
    refine mm_isubN rfl (by omega) ?_
    refine mm_goto (tgt := 42) rfl (by decide) ?_
    rw [show ed_kd (J 70) n q = ed_le (J 70) n q - q from by rw [ed_kd, if_pos (by omega)]] at *
    refine mm_istore_n rfl (by decide) ?_
    refine mm_iload_n rfl rfl ?_
    refine mm_if_neN (tgt := 50) rfl (by decide) (by omega) (fun h44 => ?_) (fun h44 => ?_)
    · exact absurd (by omega) h44
    · refine mm_bipush (v := -2) rfl (by decide) ?_
      refine mm_ireturn rfl rfl rfl (by decide) (by decide) ?_
      exact ⟨rfl, rfl, rfl, rfl⟩
set_option maxRecDepth 100000 in
set_option maxHeartbeats 400000 in
theorem sR_killLine1 {E : mm_E} {G : mm_G} {J : mm_J} (hG : mm_GI G) {n q : Nat} (hn : J 69 3 = nI n) (hn2 : n ≤ 100) (hp : J 69 5 = nI q) (hq : q ≤ n) (h0 : 0 < ed_kd (J 70) n q) {J2 : mm_J} {r : Int32} {J3 : mm_J} (hl : J 69 8 = nI 10 ∨ J 69 8 = nI 11) (hk : mm_Ret E qR_keep [.ref 69, .int (nI q), .int (nI (ed_kd (J 70) n q)), .int (nI 1)] 86 J G none 86 J2 G) (hp2 : J2 69 5 = nI q) (he : mm_Ret E qR_erase [.ref 69, .int (nI q), .int (nI (ed_kd (J 70) n q))] 86 J2 G (some (.int r)) 86 J3 G) : mm_Ret E qR_killLine [.ref 69] 86 J G (some (.int r)) 86 J3 G := by
  refine mm_Met.of qR_killLine_ok (by decide) (mm_cats rfl) (Nat.le_of_ble_eq_true rfl) ?_
  have hle := ed_le_le (f := J 70) hq
  refine mm_aload_n rfl rfl ?_
  refine mm_aload_n rfl rfl ?_
  refine mm_getI (x := nI q) rfl rfl rfl (by decide) rfl hp ?_
  refine mm_isV1 (M2 := qR_lineEnd) wd_685 qR_lineEnd_k (by decide) (sR_lineEnd hG hn hn2 hq) rfl (by decide) (Nat.le_of_ble_eq_true rfl) (by decide) (by decide) rfl (by decide) ?_
  refine mm_istore_n rfl (by decide) ?_
  refine mm_iload_n rfl rfl ?_
  refine mm_aload_n rfl rfl ?_
  refine mm_getI (x := nI q) rfl rfl rfl (by decide) rfl hp ?_
  refine mm_icmp_leN (tgt := 26) rfl (by decide) (by omega) (by omega) (fun h14 => ?_) (fun h14 => ?_)
  · refine mm_aload_n rfl rfl ?_
    refine mm_getI (x := nI q) rfl rfl rfl (by decide) rfl hp ?_
    refine mm_aload_n rfl rfl ?_
    refine mm_getI (x := nI n) rfl rfl rfl (by decide) rfl hn ?_
    refine mm_icmp_geN (tgt := 41) rfl (by decide) (by omega) (by omega) (fun h34 => ?_) (fun h34 => ?_)
    · refine mm_iconst (v := nI 0) rfl (by decide) ?_
      rw [show ed_kd (J 70) n q = 0 from by rw [ed_kd, if_neg (by omega), if_neg (by omega)]] at *
      refine mm_istore_n rfl (by decide) ?_
      refine mm_iload_n rfl rfl ?_
      refine mm_if_neN (tgt := 50) rfl (by decide) (by omega) (fun h44 => ?_) (fun h44 => ?_)
      · refine mm_aload_n rfl rfl ?_
        refine mm_aload_n rfl rfl ?_
        refine mm_getI (x := nI q) rfl rfl rfl (by decide) rfl hp ?_
        refine mm_iload_n rfl rfl ?_
        refine mm_aload_n rfl rfl ?_
        refine mm_getI rfl rfl rfl (by decide) rfl rfl ?_
        refine mm_bipush (v := nI 10) rfl (by decide) ?_
        refine mm_icmp_eq (tgt := 74) rfl (by decide) (fun h62 => ?_) (fun h62 => ?_)
        · refine mm_iconst (v := nI 1) rfl (by decide) ?_
          refine mm_goto (tgt := 79) rfl (by decide) ?_
          refine mm_isV3 (M2 := qR_keep) wd_689 qR_keep_k (by decide) hk rfl (by decide) (Nat.le_of_ble_eq_true rfl) (by decide) (by decide) rfl (by decide) ?_
          refine mm_aload_n rfl rfl ?_
          refine mm_aload_n rfl rfl ?_
          refine mm_getI (x := nI q) rfl rfl rfl (by decide) rfl hp2 ?_
          refine mm_iload_n rfl rfl ?_
          refine mm_isV2 (M2 := qR_erase) wd_677 qR_erase_k (by decide) he rfl (by decide) (Nat.le_of_ble_eq_true rfl) (by decide) (by decide) rfl (by decide) ?_
          refine mm_ireturn rfl rfl rfl (by decide) (by decide) ?_
          exact ⟨rfl, rfl, rfl, rfl⟩
        · refine mm_aload_n rfl rfl ?_
          refine mm_getI rfl rfl rfl (by decide) rfl rfl ?_
          refine mm_bipush (v := nI 11) rfl (by decide) ?_
          refine mm_icmp_ne (tgt := 78) rfl (by decide) (fun h71 => ?_) (fun h71 => ?_)
          · exact absurd hl (fun e => e.elim h62 h71)
          · refine mm_iconst (v := nI 1) rfl (by decide) ?_
            refine mm_goto (tgt := 79) rfl (by decide) ?_
            refine mm_isV3 (M2 := qR_keep) wd_689 qR_keep_k (by decide) hk rfl (by decide) (Nat.le_of_ble_eq_true rfl) (by decide) (by decide) rfl (by decide) ?_
            refine mm_aload_n rfl rfl ?_
            refine mm_aload_n rfl rfl ?_
            refine mm_getI (x := nI q) rfl rfl rfl (by decide) rfl hp2 ?_
            refine mm_iload_n rfl rfl ?_
            refine mm_isV2 (M2 := qR_erase) wd_677 qR_erase_k (by decide) he rfl (by decide) (Nat.le_of_ble_eq_true rfl) (by decide) (by decide) rfl (by decide) ?_
            refine mm_ireturn rfl rfl rfl (by decide) (by decide) ?_
            exact ⟨rfl, rfl, rfl, rfl⟩
      · exact absurd h44 (by omega)
    · refine mm_iconst (v := nI 1) rfl (by decide) ?_
      refine mm_goto (tgt := 42) rfl (by decide) ?_
      rw [show ed_kd (J 70) n q = 1 from by rw [ed_kd, if_neg (by omega), if_pos (by omega)]] at *
      refine mm_istore_n rfl (by decide) ?_
      refine mm_iload_n rfl rfl ?_
      refine mm_if_neN (tgt := 50) rfl (by decide) (by omega) (fun h44 => ?_) (fun h44 => ?_)
      · refine mm_aload_n rfl rfl ?_
        refine mm_aload_n rfl rfl ?_
        refine mm_getI (x := nI q) rfl rfl rfl (by decide) rfl hp ?_
        refine mm_iload_n rfl rfl ?_
        refine mm_aload_n rfl rfl ?_
        refine mm_getI rfl rfl rfl (by decide) rfl rfl ?_
        refine mm_bipush (v := nI 10) rfl (by decide) ?_
        refine mm_icmp_eq (tgt := 74) rfl (by decide) (fun h62 => ?_) (fun h62 => ?_)
        · refine mm_iconst (v := nI 1) rfl (by decide) ?_
          refine mm_goto (tgt := 79) rfl (by decide) ?_
          refine mm_isV3 (M2 := qR_keep) wd_689 qR_keep_k (by decide) hk rfl (by decide) (Nat.le_of_ble_eq_true rfl) (by decide) (by decide) rfl (by decide) ?_
          refine mm_aload_n rfl rfl ?_
          refine mm_aload_n rfl rfl ?_
          refine mm_getI (x := nI q) rfl rfl rfl (by decide) rfl hp2 ?_
          refine mm_iload_n rfl rfl ?_
          refine mm_isV2 (M2 := qR_erase) wd_677 qR_erase_k (by decide) he rfl (by decide) (Nat.le_of_ble_eq_true rfl) (by decide) (by decide) rfl (by decide) ?_
          refine mm_ireturn rfl rfl rfl (by decide) (by decide) ?_
          exact ⟨rfl, rfl, rfl, rfl⟩
        · refine mm_aload_n rfl rfl ?_
          refine mm_getI rfl rfl rfl (by decide) rfl rfl ?_
          refine mm_bipush (v := nI 11) rfl (by decide) ?_
          refine mm_icmp_ne (tgt := 78) rfl (by decide) (fun h71 => ?_) (fun h71 => ?_)
          · exact absurd hl (fun e => e.elim h62 h71)
          · refine mm_iconst (v := nI 1) rfl (by decide) ?_
            refine mm_goto (tgt := 79) rfl (by decide) ?_
            refine mm_isV3 (M2 := qR_keep) wd_689 qR_keep_k (by decide) hk rfl (by decide) (Nat.le_of_ble_eq_true rfl) (by decide) (by decide) rfl (by decide) ?_
            refine mm_aload_n rfl rfl ?_
            refine mm_aload_n rfl rfl ?_
            refine mm_getI (x := nI q) rfl rfl rfl (by decide) rfl hp2 ?_
            refine mm_iload_n rfl rfl ?_
            refine mm_isV2 (M2 := qR_erase) wd_677 qR_erase_k (by decide) he rfl (by decide) (Nat.le_of_ble_eq_true rfl) (by decide) (by decide) rfl (by decide) ?_
            refine mm_ireturn rfl rfl rfl (by decide) (by decide) ?_
            exact ⟨rfl, rfl, rfl, rfl⟩
      · exact absurd h44 (by omega)
  · refine mm_iload_n rfl rfl ?_
    refine mm_aload_n rfl rfl ?_
    refine mm_getI (x := nI q) rfl rfl rfl (by decide) rfl hp ?_
    refine mm_isubN rfl (by omega) ?_
    refine mm_goto (tgt := 42) rfl (by decide) ?_
    rw [show ed_kd (J 70) n q = ed_le (J 70) n q - q from by rw [ed_kd, if_pos (by omega)]] at *
    refine mm_istore_n rfl (by decide) ?_
    refine mm_iload_n rfl rfl ?_
    refine mm_if_neN (tgt := 50) rfl (by decide) (by omega) (fun h44 => ?_) (fun h44 => ?_)
    · refine mm_aload_n rfl rfl ?_
      refine mm_aload_n rfl rfl ?_
      refine mm_getI (x := nI q) rfl rfl rfl (by decide) rfl hp ?_
      refine mm_iload_n rfl rfl ?_
      refine mm_aload_n rfl rfl ?_
      refine mm_getI rfl rfl rfl (by decide) rfl rfl ?_
      refine mm_bipush (v := nI 10) rfl (by decide) ?_
      refine mm_icmp_eq (tgt := 74) rfl (by decide) (fun h62 => ?_) (fun h62 => ?_)
      · refine mm_iconst (v := nI 1) rfl (by decide) ?_
        refine mm_goto (tgt := 79) rfl (by decide) ?_
        refine mm_isV3 (M2 := qR_keep) wd_689 qR_keep_k (by decide) hk rfl (by decide) (Nat.le_of_ble_eq_true rfl) (by decide) (by decide) rfl (by decide) ?_
        refine mm_aload_n rfl rfl ?_
        refine mm_aload_n rfl rfl ?_
        refine mm_getI (x := nI q) rfl rfl rfl (by decide) rfl hp2 ?_
        refine mm_iload_n rfl rfl ?_
        refine mm_isV2 (M2 := qR_erase) wd_677 qR_erase_k (by decide) he rfl (by decide) (Nat.le_of_ble_eq_true rfl) (by decide) (by decide) rfl (by decide) ?_
        refine mm_ireturn rfl rfl rfl (by decide) (by decide) ?_
        exact ⟨rfl, rfl, rfl, rfl⟩
      · refine mm_aload_n rfl rfl ?_
        refine mm_getI rfl rfl rfl (by decide) rfl rfl ?_
        refine mm_bipush (v := nI 11) rfl (by decide) ?_
        refine mm_icmp_ne (tgt := 78) rfl (by decide) (fun h71 => ?_) (fun h71 => ?_)
        · exact absurd hl (fun e => e.elim h62 h71)
        · refine mm_iconst (v := nI 1) rfl (by decide) ?_
          refine mm_goto (tgt := 79) rfl (by decide) ?_
          refine mm_isV3 (M2 := qR_keep) wd_689 qR_keep_k (by decide) hk rfl (by decide) (Nat.le_of_ble_eq_true rfl) (by decide) (by decide) rfl (by decide) ?_
          refine mm_aload_n rfl rfl ?_
          refine mm_aload_n rfl rfl ?_
          refine mm_getI (x := nI q) rfl rfl rfl (by decide) rfl hp2 ?_
          refine mm_iload_n rfl rfl ?_
          refine mm_isV2 (M2 := qR_erase) wd_677 qR_erase_k (by decide) he rfl (by decide) (Nat.le_of_ble_eq_true rfl) (by decide) (by decide) rfl (by decide) ?_
          refine mm_ireturn rfl rfl rfl (by decide) (by decide) ?_
          exact ⟨rfl, rfl, rfl, rfl⟩
    · exact absurd h44 (by omega)
set_option maxRecDepth 100000 in
set_option maxHeartbeats 400000 in
theorem sR_killLine2 {E : mm_E} {G : mm_G} {J : mm_J} (hG : mm_GI G) {n q : Nat} (hn : J 69 3 = nI n) (hn2 : n ≤ 100) (hp : J 69 5 = nI q) (hq : q ≤ n) (h0 : 0 < ed_kd (J 70) n q) {J2 : mm_J} {r : Int32} {J3 : mm_J} (hl : ¬ J 69 8 = nI 10 ∧ ¬ J 69 8 = nI 11) (hk : mm_Ret E qR_keep [.ref 69, .int (nI q), .int (nI (ed_kd (J 70) n q)), .int (nI 0)] 86 J G none 86 J2 G) (hp2 : J2 69 5 = nI q) (he : mm_Ret E qR_erase [.ref 69, .int (nI q), .int (nI (ed_kd (J 70) n q))] 86 J2 G (some (.int r)) 86 J3 G) : mm_Ret E qR_killLine [.ref 69] 86 J G (some (.int r)) 86 J3 G := by
  refine mm_Met.of qR_killLine_ok (by decide) (mm_cats rfl) (Nat.le_of_ble_eq_true rfl) ?_
  have hle := ed_le_le (f := J 70) hq
  refine mm_aload_n rfl rfl ?_
  refine mm_aload_n rfl rfl ?_
  refine mm_getI (x := nI q) rfl rfl rfl (by decide) rfl hp ?_
  refine mm_isV1 (M2 := qR_lineEnd) wd_685 qR_lineEnd_k (by decide) (sR_lineEnd hG hn hn2 hq) rfl (by decide) (Nat.le_of_ble_eq_true rfl) (by decide) (by decide) rfl (by decide) ?_
  refine mm_istore_n rfl (by decide) ?_
  refine mm_iload_n rfl rfl ?_
  refine mm_aload_n rfl rfl ?_
  refine mm_getI (x := nI q) rfl rfl rfl (by decide) rfl hp ?_
  refine mm_icmp_leN (tgt := 26) rfl (by decide) (by omega) (by omega) (fun h14 => ?_) (fun h14 => ?_)
  · refine mm_aload_n rfl rfl ?_
    refine mm_getI (x := nI q) rfl rfl rfl (by decide) rfl hp ?_
    refine mm_aload_n rfl rfl ?_
    refine mm_getI (x := nI n) rfl rfl rfl (by decide) rfl hn ?_
    refine mm_icmp_geN (tgt := 41) rfl (by decide) (by omega) (by omega) (fun h34 => ?_) (fun h34 => ?_)
    · refine mm_iconst (v := nI 0) rfl (by decide) ?_
      rw [show ed_kd (J 70) n q = 0 from by rw [ed_kd, if_neg (by omega), if_neg (by omega)]] at *
      refine mm_istore_n rfl (by decide) ?_
      refine mm_iload_n rfl rfl ?_
      refine mm_if_neN (tgt := 50) rfl (by decide) (by omega) (fun h44 => ?_) (fun h44 => ?_)
      · refine mm_aload_n rfl rfl ?_
        refine mm_aload_n rfl rfl ?_
        refine mm_getI (x := nI q) rfl rfl rfl (by decide) rfl hp ?_
        refine mm_iload_n rfl rfl ?_
        refine mm_aload_n rfl rfl ?_
        refine mm_getI rfl rfl rfl (by decide) rfl rfl ?_
        refine mm_bipush (v := nI 10) rfl (by decide) ?_
        refine mm_icmp_eq (tgt := 74) rfl (by decide) (fun h62 => ?_) (fun h62 => ?_)
        · exact absurd h62 hl.1
        · refine mm_aload_n rfl rfl ?_
          refine mm_getI rfl rfl rfl (by decide) rfl rfl ?_
          refine mm_bipush (v := nI 11) rfl (by decide) ?_
          refine mm_icmp_ne (tgt := 78) rfl (by decide) (fun h71 => ?_) (fun h71 => ?_)
          · refine mm_iconst (v := nI 0) rfl (by decide) ?_
            refine mm_isV3 (M2 := qR_keep) wd_689 qR_keep_k (by decide) hk rfl (by decide) (Nat.le_of_ble_eq_true rfl) (by decide) (by decide) rfl (by decide) ?_
            refine mm_aload_n rfl rfl ?_
            refine mm_aload_n rfl rfl ?_
            refine mm_getI (x := nI q) rfl rfl rfl (by decide) rfl hp2 ?_
            refine mm_iload_n rfl rfl ?_
            refine mm_isV2 (M2 := qR_erase) wd_677 qR_erase_k (by decide) he rfl (by decide) (Nat.le_of_ble_eq_true rfl) (by decide) (by decide) rfl (by decide) ?_
            refine mm_ireturn rfl rfl rfl (by decide) (by decide) ?_
            exact ⟨rfl, rfl, rfl, rfl⟩
          · exact absurd h71 hl.2
      · exact absurd h44 (by omega)
    · refine mm_iconst (v := nI 1) rfl (by decide) ?_
      refine mm_goto (tgt := 42) rfl (by decide) ?_
      rw [show ed_kd (J 70) n q = 1 from by rw [ed_kd, if_neg (by omega), if_pos (by omega)]] at *
      refine mm_istore_n rfl (by decide) ?_
      refine mm_iload_n rfl rfl ?_
      refine mm_if_neN (tgt := 50) rfl (by decide) (by omega) (fun h44 => ?_) (fun h44 => ?_)
      · refine mm_aload_n rfl rfl ?_
        refine mm_aload_n rfl rfl ?_
        refine mm_getI (x := nI q) rfl rfl rfl (by decide) rfl hp ?_
        refine mm_iload_n rfl rfl ?_
        refine mm_aload_n rfl rfl ?_
        refine mm_getI rfl rfl rfl (by decide) rfl rfl ?_
        refine mm_bipush (v := nI 10) rfl (by decide) ?_
        refine mm_icmp_eq (tgt := 74) rfl (by decide) (fun h62 => ?_) (fun h62 => ?_)
        · exact absurd h62 hl.1
        · refine mm_aload_n rfl rfl ?_
          refine mm_getI rfl rfl rfl (by decide) rfl rfl ?_
          refine mm_bipush (v := nI 11) rfl (by decide) ?_
          refine mm_icmp_ne (tgt := 78) rfl (by decide) (fun h71 => ?_) (fun h71 => ?_)
          · refine mm_iconst (v := nI 0) rfl (by decide) ?_
            refine mm_isV3 (M2 := qR_keep) wd_689 qR_keep_k (by decide) hk rfl (by decide) (Nat.le_of_ble_eq_true rfl) (by decide) (by decide) rfl (by decide) ?_
            refine mm_aload_n rfl rfl ?_
            refine mm_aload_n rfl rfl ?_
            refine mm_getI (x := nI q) rfl rfl rfl (by decide) rfl hp2 ?_
            refine mm_iload_n rfl rfl ?_
            refine mm_isV2 (M2 := qR_erase) wd_677 qR_erase_k (by decide) he rfl (by decide) (Nat.le_of_ble_eq_true rfl) (by decide) (by decide) rfl (by decide) ?_
            refine mm_ireturn rfl rfl rfl (by decide) (by decide) ?_
            exact ⟨rfl, rfl, rfl, rfl⟩
          · exact absurd h71 hl.2
      · exact absurd h44 (by omega)
  · refine mm_iload_n rfl rfl ?_
    refine mm_aload_n rfl rfl ?_
    refine mm_getI (x := nI q) rfl rfl rfl (by decide) rfl hp ?_
    refine mm_isubN rfl (by omega) ?_
    refine mm_goto (tgt := 42) rfl (by decide) ?_
    rw [show ed_kd (J 70) n q = ed_le (J 70) n q - q from by rw [ed_kd, if_pos (by omega)]] at *
    refine mm_istore_n rfl (by decide) ?_
    refine mm_iload_n rfl rfl ?_
    refine mm_if_neN (tgt := 50) rfl (by decide) (by omega) (fun h44 => ?_) (fun h44 => ?_)
    · refine mm_aload_n rfl rfl ?_
      refine mm_aload_n rfl rfl ?_
      refine mm_getI (x := nI q) rfl rfl rfl (by decide) rfl hp ?_
      refine mm_iload_n rfl rfl ?_
      refine mm_aload_n rfl rfl ?_
      refine mm_getI rfl rfl rfl (by decide) rfl rfl ?_
      refine mm_bipush (v := nI 10) rfl (by decide) ?_
      refine mm_icmp_eq (tgt := 74) rfl (by decide) (fun h62 => ?_) (fun h62 => ?_)
      · exact absurd h62 hl.1
      · refine mm_aload_n rfl rfl ?_
        refine mm_getI rfl rfl rfl (by decide) rfl rfl ?_
        refine mm_bipush (v := nI 11) rfl (by decide) ?_
        refine mm_icmp_ne (tgt := 78) rfl (by decide) (fun h71 => ?_) (fun h71 => ?_)
        · refine mm_iconst (v := nI 0) rfl (by decide) ?_
          refine mm_isV3 (M2 := qR_keep) wd_689 qR_keep_k (by decide) hk rfl (by decide) (Nat.le_of_ble_eq_true rfl) (by decide) (by decide) rfl (by decide) ?_
          refine mm_aload_n rfl rfl ?_
          refine mm_aload_n rfl rfl ?_
          refine mm_getI (x := nI q) rfl rfl rfl (by decide) rfl hp2 ?_
          refine mm_iload_n rfl rfl ?_
          refine mm_isV2 (M2 := qR_erase) wd_677 qR_erase_k (by decide) he rfl (by decide) (Nat.le_of_ble_eq_true rfl) (by decide) (by decide) rfl (by decide) ?_
          refine mm_ireturn rfl rfl rfl (by decide) (by decide) ?_
          exact ⟨rfl, rfl, rfl, rfl⟩
        · exact absurd h71 hl.2
    · exact absurd h44 (by omega)
set_option maxRecDepth 100000 in
set_option maxHeartbeats 400000 in
theorem sR_killRegion0 {E : mm_E} {G : mm_G} {J : mm_J} (hk : J 69 6 = -2) {cp : Int32} : mm_Ret E qR_killRegion [.ref 69, .int cp] 86 J G (some (.int (-2))) 86 J G := by
  refine mm_Met.of qR_killRegion_ok (by decide) (mm_cats rfl) (Nat.le_of_ble_eq_true rfl) ?_
  refine mm_aload_n rfl rfl ?_
  refine mm_getI rfl rfl rfl (by decide) rfl hk ?_
  refine mm_if_lt (tgt := 18) rfl (by decide) (fun h4 => ?_) (fun h4 => ?_)
  · refine mm_bipush (v := -2) rfl (by decide) ?_
    refine mm_ireturn rfl rfl rfl (by decide) (by decide) ?_
    exact ⟨rfl, rfl, rfl, rfl⟩
  · exact absurd (by decide) h4
set_option maxRecDepth 100000 in
set_option maxHeartbeats 400000 in
theorem sR_killRegion1 {E : mm_E} {G : mm_G} {J : mm_J} (hG : mm_GI G) {q k : Nat} (hp : J 69 5 = nI q) (hq : q ≤ 100) (hk : J 69 6 = nI k) (hk2 : k ≤ 100) {cp : Int32} (h : k = q) : mm_Ret E qR_killRegion [.ref 69, .int cp] 86 J G (some (.int (-2))) 86 J G := by
  refine mm_Met.of qR_killRegion_ok (by decide) (mm_cats rfl) (Nat.le_of_ble_eq_true rfl) ?_
  refine mm_aload_n rfl rfl ?_
  refine mm_getI (x := nI k) rfl rfl rfl (by decide) rfl hk ?_
  refine mm_if_ltN (tgt := 18) rfl (by decide) (by omega) ?_
  refine mm_aload_n rfl rfl ?_
  refine mm_getI (x := nI k) rfl rfl rfl (by decide) rfl hk ?_
  refine mm_aload_n rfl rfl ?_
  refine mm_getI (x := nI q) rfl rfl rfl (by decide) rfl hp ?_
  refine mm_icmp_neN (tgt := 21) rfl (by decide) (by omega) (by omega) (fun h15 => ?_) (fun h15 => ?_)
  · exact absurd h h15
  · refine mm_bipush (v := -2) rfl (by decide) ?_
    refine mm_ireturn rfl rfl rfl (by decide) (by decide) ?_
    exact ⟨rfl, rfl, rfl, rfl⟩
set_option maxRecDepth 100000 in
set_option maxHeartbeats 400000 in
theorem sR_killRegion2 {E : mm_E} {G : mm_G} {J : mm_J} (hG : mm_GI G) {q k : Nat} (hp : J 69 5 = nI q) (hq : q ≤ 100) (hk : J 69 6 = nI k) (hk2 : k ≤ 100) (h : ¬ k = q) {J2 : mm_J} (hkp : mm_Ret E qR_keep [.ref 69, .int (nI (min k q)), .int (nI (max k q - min k q)), .int (nI 0)] 86 J G none 86 J2 G) : mm_Ret E qR_killRegion [.ref 69, .int (nI 1)] 86 J G (some (.int (nI 0))) 86 J2 G := by
  refine mm_Met.of qR_killRegion_ok (by decide) (mm_cats rfl) (Nat.le_of_ble_eq_true rfl) ?_
  refine mm_aload_n rfl rfl ?_
  refine mm_getI (x := nI k) rfl rfl rfl (by decide) rfl hk ?_
  refine mm_if_ltN (tgt := 18) rfl (by decide) (by omega) ?_
  refine mm_aload_n rfl rfl ?_
  refine mm_getI (x := nI k) rfl rfl rfl (by decide) rfl hk ?_
  refine mm_aload_n rfl rfl ?_
  refine mm_getI (x := nI q) rfl rfl rfl (by decide) rfl hp ?_
  refine mm_icmp_neN (tgt := 21) rfl (by decide) (by omega) (by omega) (fun h15 => ?_) (fun h15 => ?_)
  · refine mm_aload_n rfl rfl ?_
    refine mm_getI (x := nI k) rfl rfl rfl (by decide) rfl hk ?_
    refine mm_aload_n rfl rfl ?_
    refine mm_getI (x := nI q) rfl rfl rfl (by decide) rfl hp ?_
    refine mm_icmp_geN (tgt := 39) rfl (by decide) (by omega) (by omega) (fun h29 => ?_) (fun h29 => ?_)
    · refine mm_aload_n rfl rfl ?_
      refine mm_getI (x := nI q) rfl rfl rfl (by decide) rfl hp ?_
      refine mm_istore_n rfl (by decide) ?_
      refine mm_aload_n rfl rfl ?_
      refine mm_getI (x := nI k) rfl rfl rfl (by decide) rfl hk ?_
      refine mm_aload_n rfl rfl ?_
      refine mm_getI (x := nI q) rfl rfl rfl (by decide) rfl hp ?_
      refine mm_icmp_geN (tgt := 67) rfl (by decide) (by omega) (by omega) (fun h52 => ?_) (fun h52 => ?_)
      · refine mm_aload_n rfl rfl ?_
        refine mm_getI (x := nI k) rfl rfl rfl (by decide) rfl hk ?_
        refine mm_aload_n rfl rfl ?_
        refine mm_getI (x := nI q) rfl rfl rfl (by decide) rfl hp ?_
        refine mm_isubN rfl (by omega) ?_
        refine mm_istore_n rfl (by decide) ?_
        rw [show min k q = q by omega, show max k q = k by omega] at *
        refine mm_aload_n rfl rfl ?_
        refine mm_iload_n rfl rfl ?_
        refine mm_iload_n rfl rfl ?_
        refine mm_iconst (v := nI 0) rfl (by decide) ?_
        refine mm_isV3 (M2 := qR_keep) wd_689 qR_keep_k (by decide) hkp rfl (by decide) (Nat.le_of_ble_eq_true rfl) (by decide) (by decide) rfl (by decide) ?_
        refine mm_iload_n rfl rfl ?_
        refine mm_if_eqN (tgt := 92) rfl (by decide) (by decide) (fun h85 => ?_) (fun h85 => ?_)
        · exact absurd h85 (by decide)
        · refine mm_iconst (v := nI 0) rfl (by decide) ?_
          refine mm_goto (tgt := 98) rfl (by decide) ?_
          refine mm_ireturn rfl rfl rfl (by decide) (by decide) ?_
          exact ⟨rfl, rfl, rfl, rfl⟩
      · exact absurd h52 (by omega)
    · refine mm_aload_n rfl rfl ?_
      refine mm_getI (x := nI k) rfl rfl rfl (by decide) rfl hk ?_
      refine mm_goto (tgt := 43) rfl (by decide) ?_
      refine mm_istore_n rfl (by decide) ?_
      refine mm_aload_n rfl rfl ?_
      refine mm_getI (x := nI k) rfl rfl rfl (by decide) rfl hk ?_
      refine mm_aload_n rfl rfl ?_
      refine mm_getI (x := nI q) rfl rfl rfl (by decide) rfl hp ?_
      refine mm_icmp_geN (tgt := 67) rfl (by decide) (by omega) (by omega) (fun h52 => ?_) (fun h52 => ?_)
      · exact absurd h52 (by omega)
      · refine mm_aload_n rfl rfl ?_
        refine mm_getI (x := nI q) rfl rfl rfl (by decide) rfl hp ?_
        refine mm_aload_n rfl rfl ?_
        refine mm_getI (x := nI k) rfl rfl rfl (by decide) rfl hk ?_
        refine mm_isubN rfl (by omega) ?_
        refine mm_goto (tgt := 76) rfl (by decide) ?_
        refine mm_istore_n rfl (by decide) ?_
        rw [show min k q = k by omega, show max k q = q by omega] at *
        refine mm_aload_n rfl rfl ?_
        refine mm_iload_n rfl rfl ?_
        refine mm_iload_n rfl rfl ?_
        refine mm_iconst (v := nI 0) rfl (by decide) ?_
        refine mm_isV3 (M2 := qR_keep) wd_689 qR_keep_k (by decide) hkp rfl (by decide) (Nat.le_of_ble_eq_true rfl) (by decide) (by decide) rfl (by decide) ?_
        refine mm_iload_n rfl rfl ?_
        refine mm_if_eqN (tgt := 92) rfl (by decide) (by decide) (fun h85 => ?_) (fun h85 => ?_)
        · exact absurd h85 (by decide)
        · refine mm_iconst (v := nI 0) rfl (by decide) ?_
          refine mm_goto (tgt := 98) rfl (by decide) ?_
          refine mm_ireturn rfl rfl rfl (by decide) (by decide) ?_
          exact ⟨rfl, rfl, rfl, rfl⟩
  · exact absurd h15 h
set_option maxRecDepth 100000 in
set_option maxHeartbeats 400000 in
theorem sR_killRegion3 {E : mm_E} {G : mm_G} {J : mm_J} (hG : mm_GI G) {q k : Nat} (hp : J 69 5 = nI q) (hq : q ≤ 100) (hk : J 69 6 = nI k) (hk2 : k ≤ 100) (h : ¬ k = q) {J2 : mm_J} (hkp : mm_Ret E qR_keep [.ref 69, .int (nI (min k q)), .int (nI (max k q - min k q)), .int (nI 0)] 86 J G none 86 J2 G) {r : Int32} {J3 : mm_J} (he : mm_Ret E qR_erase [.ref 69, .int (nI (min k q)), .int (nI (max k q - min k q))] 86 J2 G (some (.int r)) 86 J3 G) : mm_Ret E qR_killRegion [.ref 69, .int (nI 0)] 86 J G (some (.int r)) 86 J3 G := by
  refine mm_Met.of qR_killRegion_ok (by decide) (mm_cats rfl) (Nat.le_of_ble_eq_true rfl) ?_
  refine mm_aload_n rfl rfl ?_
  refine mm_getI (x := nI k) rfl rfl rfl (by decide) rfl hk ?_
  refine mm_if_ltN (tgt := 18) rfl (by decide) (by omega) ?_
  refine mm_aload_n rfl rfl ?_
  refine mm_getI (x := nI k) rfl rfl rfl (by decide) rfl hk ?_
  refine mm_aload_n rfl rfl ?_
  refine mm_getI (x := nI q) rfl rfl rfl (by decide) rfl hp ?_
  refine mm_icmp_neN (tgt := 21) rfl (by decide) (by omega) (by omega) (fun h15 => ?_) (fun h15 => ?_)
  · refine mm_aload_n rfl rfl ?_
    refine mm_getI (x := nI k) rfl rfl rfl (by decide) rfl hk ?_
    refine mm_aload_n rfl rfl ?_
    refine mm_getI (x := nI q) rfl rfl rfl (by decide) rfl hp ?_
    refine mm_icmp_geN (tgt := 39) rfl (by decide) (by omega) (by omega) (fun h29 => ?_) (fun h29 => ?_)
    · refine mm_aload_n rfl rfl ?_
      refine mm_getI (x := nI q) rfl rfl rfl (by decide) rfl hp ?_
      refine mm_istore_n rfl (by decide) ?_
      refine mm_aload_n rfl rfl ?_
      refine mm_getI (x := nI k) rfl rfl rfl (by decide) rfl hk ?_
      refine mm_aload_n rfl rfl ?_
      refine mm_getI (x := nI q) rfl rfl rfl (by decide) rfl hp ?_
      refine mm_icmp_geN (tgt := 67) rfl (by decide) (by omega) (by omega) (fun h52 => ?_) (fun h52 => ?_)
      · refine mm_aload_n rfl rfl ?_
        refine mm_getI (x := nI k) rfl rfl rfl (by decide) rfl hk ?_
        refine mm_aload_n rfl rfl ?_
        refine mm_getI (x := nI q) rfl rfl rfl (by decide) rfl hp ?_
        refine mm_isubN rfl (by omega) ?_
        refine mm_istore_n rfl (by decide) ?_
        rw [show min k q = q by omega, show max k q = k by omega] at *
        refine mm_aload_n rfl rfl ?_
        refine mm_iload_n rfl rfl ?_
        refine mm_iload_n rfl rfl ?_
        refine mm_iconst (v := nI 0) rfl (by decide) ?_
        refine mm_isV3 (M2 := qR_keep) wd_689 qR_keep_k (by decide) hkp rfl (by decide) (Nat.le_of_ble_eq_true rfl) (by decide) (by decide) rfl (by decide) ?_
        refine mm_iload_n rfl rfl ?_
        refine mm_if_eqN (tgt := 92) rfl (by decide) (by decide) (fun h85 => ?_) (fun h85 => ?_)
        · refine mm_aload_n rfl rfl ?_
          refine mm_iload_n rfl rfl ?_
          refine mm_iload_n rfl rfl ?_
          refine mm_isV2 (M2 := qR_erase) wd_677 qR_erase_k (by decide) he rfl (by decide) (Nat.le_of_ble_eq_true rfl) (by decide) (by decide) rfl (by decide) ?_
          refine mm_ireturn rfl rfl rfl (by decide) (by decide) ?_
          exact ⟨rfl, rfl, rfl, rfl⟩
        · exact absurd rfl h85
      · exact absurd h52 (by omega)
    · refine mm_aload_n rfl rfl ?_
      refine mm_getI (x := nI k) rfl rfl rfl (by decide) rfl hk ?_
      refine mm_goto (tgt := 43) rfl (by decide) ?_
      refine mm_istore_n rfl (by decide) ?_
      refine mm_aload_n rfl rfl ?_
      refine mm_getI (x := nI k) rfl rfl rfl (by decide) rfl hk ?_
      refine mm_aload_n rfl rfl ?_
      refine mm_getI (x := nI q) rfl rfl rfl (by decide) rfl hp ?_
      refine mm_icmp_geN (tgt := 67) rfl (by decide) (by omega) (by omega) (fun h52 => ?_) (fun h52 => ?_)
      · exact absurd h52 (by omega)
      · refine mm_aload_n rfl rfl ?_
        refine mm_getI (x := nI q) rfl rfl rfl (by decide) rfl hp ?_
        refine mm_aload_n rfl rfl ?_
        refine mm_getI (x := nI k) rfl rfl rfl (by decide) rfl hk ?_
        refine mm_isubN rfl (by omega) ?_
        refine mm_goto (tgt := 76) rfl (by decide) ?_
        refine mm_istore_n rfl (by decide) ?_
        rw [show min k q = k by omega, show max k q = q by omega] at *
        refine mm_aload_n rfl rfl ?_
        refine mm_iload_n rfl rfl ?_
        refine mm_iload_n rfl rfl ?_
        refine mm_iconst (v := nI 0) rfl (by decide) ?_
        refine mm_isV3 (M2 := qR_keep) wd_689 qR_keep_k (by decide) hkp rfl (by decide) (Nat.le_of_ble_eq_true rfl) (by decide) (by decide) rfl (by decide) ?_
        refine mm_iload_n rfl rfl ?_
        refine mm_if_eqN (tgt := 92) rfl (by decide) (by decide) (fun h85 => ?_) (fun h85 => ?_)
        · refine mm_aload_n rfl rfl ?_
          refine mm_iload_n rfl rfl ?_
          refine mm_iload_n rfl rfl ?_
          refine mm_isV2 (M2 := qR_erase) wd_677 qR_erase_k (by decide) he rfl (by decide) (Nat.le_of_ble_eq_true rfl) (by decide) (by decide) rfl (by decide) ?_
          refine mm_ireturn rfl rfl rfl (by decide) (by decide) ?_
          exact ⟨rfl, rfl, rfl, rfl⟩
        · exact absurd rfl h85
  · exact absurd h15 h
end
section
theorem ed_above_0 (f : Nat → Int32) : ∀ k, ed_above f k 0 = 0
  | 0 => rfl
  | k + 1 => by rw [ed_above, if_neg (by decide)]
set_option maxRecDepth 100000 in
set_option maxHeartbeats 400000 in
theorem lR_vert2 {E : mm_E} {G : mm_G} {J : mm_J} (hG : mm_GI G) {n t : Nat} (hn : J 69 3 = nI n) (hn2 : n ≤ 100) (ht : J 69 7 = nI t) (ht9 : t ≤ 9) {b0 : Nat} {F : mm_F} (kk : ∀ z : Option Value, mm_Go E qR_vertical 101 [some (.ref 69), some (.int (nI 2)), some (.int (nI (ed_below (J 70) n t b0))), some (.int (nI t)), z] [] 86 J G 0 0 F) : ∀ (k b i : Nat) (z : Option Value), t - i = k → i ≤ t → b ≤ n → (he : ed_below (J 70) n k b = ed_below (J 70) n t b0) → mm_Go E qR_vertical 44 [some (.ref 69), some (.int (nI 2)), some (.int (nI b)), some (.int (nI i)), z] [] 86 J G 0 0 F
  | 0, b, i, z, hk, hi, hb, he => by
    refine mm_iload_n rfl rfl ?_
    refine mm_aload_n rfl rfl ?_
    refine mm_getI (x := nI t) rfl rfl rfl (by decide) rfl ht ?_
    refine mm_icmp_geN (tgt := 101) rfl (by decide) (by omega) (by omega) (fun h49 => ?_) (fun h49 => ?_)
    · obtain rfl : t = i := by omega
      rw [show b = ed_below (J 70) n t b0 from he]
      exact kk z
    · exact absurd h49 (by omega)
  | k + 1, b, i, z, hk, hi, hb, he => by
    refine mm_iload_n rfl rfl ?_
    refine mm_aload_n rfl rfl ?_
    refine mm_getI (x := nI t) rfl rfl rfl (by decide) rfl ht ?_
    refine mm_icmp_geN (tgt := 101) rfl (by decide) (by omega) (by omega) (fun h49 => ?_) (fun h49 => ?_)
    · exact absurd h49 (by omega)
    · refine mm_aload_n rfl rfl ?_
      refine mm_iload_n rfl rfl ?_
      refine mm_isV1 (M2 := qR_lineEnd) wd_685 qR_lineEnd_k (by decide) (sR_lineEnd hG hn hn2 hb) rfl (by decide) (Nat.le_of_ble_eq_true rfl) (by decide) (by decide) rfl (by decide) ?_
      have hle := ed_le_le (f := J 70) hb
      refine mm_istore rfl (by decide) ?_
      refine mm_iload_n rfl rfl ?_
      refine mm_iconst (v := nI 2) rfl (by decide) ?_
      refine mm_icmp_neN (tgt := 78) rfl (by decide) (by decide) (by decide) (fun h => absurd h (by decide)) (fun _ => ?_)
      refine mm_iload rfl rfl ?_
      refine mm_aload_n rfl rfl ?_
      refine mm_getI (x := nI n) rfl rfl rfl (by decide) rfl hn ?_
      refine mm_icmp_geN (tgt := 78) rfl (by decide) (by omega) (by omega) (fun h70 => ?_) (fun h70 => ?_)
      · refine mm_iload_n rfl rfl ?_
        refine mm_iconst (v := nI 3) rfl (by decide) ?_
        refine mm_icmp_neN (tgt := 95) rfl (by decide) (by decide) (by decide) (fun _ => ?_) (fun h => absurd h (by decide))
        refine mm_iincN rfl rfl (mm_inc1 _) (by decide) ?_
        refine mm_goto (tgt := 44) rfl (by decide) ?_
        exact lR_vert2 hG hn hn2 ht ht9 kk k b (i + 1) _ (by omega) (by omega) (by omega) (by rw [← he, ed_below, if_neg (by omega)])
      · refine mm_iload rfl rfl ?_
        refine mm_iconst (v := nI 1) rfl (by decide) ?_
        refine mm_iaddN rfl ?_
        refine mm_istore_n rfl (by decide) ?_
        refine mm_iload_n rfl rfl ?_
        refine mm_iconst (v := nI 3) rfl (by decide) ?_
        refine mm_icmp_neN (tgt := 95) rfl (by decide) (by decide) (by decide) (fun _ => ?_) (fun h => absurd h (by decide))
        refine mm_iincN rfl rfl (mm_inc1 _) (by decide) ?_
        refine mm_goto (tgt := 44) rfl (by decide) ?_
        exact lR_vert2 hG hn hn2 ht ht9 kk k (ed_le (J 70) n b + 1) (i + 1) _ (by omega) (by omega) (by omega) (by rw [← he, ed_below, if_pos h70])
set_option maxRecDepth 100000 in
set_option maxHeartbeats 400000 in
theorem sR_vertical2a {E : mm_E} {G : mm_G} {J : mm_J} (hG : mm_GI G) {n t : Nat} (hn : J 69 3 = nI n) (hn2 : n ≤ 100) (ht : J 69 7 = nI t) (ht9 : t ≤ 9) {q : Nat} (hp : J 69 5 = nI q) (hq : q ≤ n) (hl : ¬ J 69 8 = nI 2 ∧ ¬ J 69 8 = nI 3) : mm_Ret E qR_vertical [.ref 69, .int (nI 2)] 86 J G none 86 (mm_set (mm_set J 69 9 (nI (q - ed_lb (J 70) q))) 69 5 (nI (min ((ed_below (J 70) n t (ed_lb (J 70) q)) + (q - ed_lb (J 70) q)) (ed_le (J 70) n (ed_below (J 70) n t (ed_lb (J 70) q)))))) G := by
  refine mm_Met.of qR_vertical_ok (by decide) (mm_cats rfl) (Nat.le_of_ble_eq_true rfl) ?_
  have hlb := ed_lb_le (f := J 70) (p := q)
  have hbb : (ed_below (J 70) n t (ed_lb (J 70) q)) ≤ n := ed_below_le t _ (by omega)
  refine mm_aload_n rfl rfl ?_
  refine mm_getI rfl rfl rfl (by decide) rfl rfl ?_
  refine mm_iconst (v := nI 2) rfl (by decide) ?_
  refine mm_icmp_eq (tgt := 33) rfl (by decide) (fun h5 => ?_) (fun h5 => ?_)
  · exact absurd h5 hl.1
  · refine mm_aload_n rfl rfl ?_
    refine mm_getI rfl rfl rfl (by decide) rfl rfl ?_
    refine mm_iconst (v := nI 3) rfl (by decide) ?_
    refine mm_icmp_eq (tgt := 33) rfl (by decide) (fun h13 => ?_) (fun h13 => ?_)
    · exact absurd h13 hl.2
    · refine mm_aload_n rfl rfl ?_
      refine mm_aload_n rfl rfl ?_
      refine mm_getI (x := nI q) rfl rfl rfl (by decide) rfl hp ?_
      refine mm_aload_n rfl rfl ?_
      refine mm_aload_n rfl rfl ?_
      refine mm_getI (x := nI q) rfl rfl rfl (by decide) rfl hp ?_
      refine mm_isV1 (M2 := qR_lineStart) wd_725 qR_lineStart_k (by decide) (sR_lineStart hG (by omega)) rfl (by decide) (Nat.le_of_ble_eq_true rfl) (by decide) (by decide) rfl (by decide) ?_
      refine mm_isubN rfl (by omega) ?_
      refine mm_putI rfl rfl rfl (by decide) rfl (Or.inl rfl) rfl rfl ?_
      refine mm_aload_n rfl rfl ?_
      refine mm_aload_n rfl rfl ?_
      refine mm_getI (x := nI q) rfl rfl rfl (by decide) rfl (by simp [mm_set, hp]) ?_
      refine mm_isV1 (M2 := qR_lineStart) wd_725 qR_lineStart_k (by decide) (sR_lineStart (J := (mm_set J 69 9 (nI (q - ed_lb (J 70) q)))) (p := q) hG (by omega)) rfl (by decide) (Nat.le_of_ble_eq_true rfl) (by decide) (by decide) rfl (by decide) ?_
      refine mm_istore_n rfl (by decide) ?_
      refine mm_iconst (v := nI 0) rfl (by decide) ?_
      refine mm_istore_n rfl (by decide) ?_
      refine lR_vert2 (J := (mm_set J 69 9 (nI (q - ed_lb (J 70) q)))) (b0 := ed_lb (J 70) q) hG (by simp [mm_set, hn]) hn2 (by simp [mm_set, ht]) ht9 (fun z => ?_) t _ 0 none rfl (by omega) (by first | omega | exact Nat.le_trans hlb hq) rfl
      refine mm_aload_n rfl rfl ?_
      refine mm_iload_n rfl rfl ?_
      refine mm_isV1 (M2 := qR_lineEnd) wd_685 qR_lineEnd_k (by decide) (sR_lineEnd (n := n) (J := (mm_set J 69 9 (nI (q - ed_lb (J 70) q)))) hG (by simp [mm_set, hn]) hn2 hbb) rfl (by decide) (Nat.le_of_ble_eq_true rfl) (by decide) (by decide) rfl (by decide) ?_
      have hle := ed_le_le (f := J 70) hbb
      rw [show (mm_set J 69 9 (nI (q - ed_lb (J 70) q))) 70 = J 70 from rfl]
      refine mm_istore_n rfl (by decide) ?_
      refine mm_aload_n rfl rfl ?_
      refine mm_iload_n rfl rfl ?_
      refine mm_aload_n rfl rfl ?_
      refine mm_getI (x := nI (q - ed_lb (J 70) q)) rfl rfl rfl (by decide) rfl (by simp [mm_set]) ?_
      refine mm_iaddN rfl ?_
      refine mm_iload_n rfl rfl ?_
      refine mm_icmp_geN (tgt := 127) rfl (by decide) (by omega) (by omega) (fun h115 => ?_) (fun h115 => ?_)
      · refine mm_iload_n rfl rfl ?_
        refine mm_putI rfl rfl rfl (by decide) rfl (Or.inl rfl) rfl rfl ?_
        refine mm_return rfl rfl (by decide) (by decide) ?_
        exact ⟨rfl, rfl, by rw [show min ((ed_below (J 70) n t (ed_lb (J 70) q)) + (q - ed_lb (J 70) q)) (ed_le (J 70) n (ed_below (J 70) n t (ed_lb (J 70) q))) = ed_le (J 70) n (ed_below (J 70) n t (ed_lb (J 70) q)) from by omega], rfl⟩
      · refine mm_iload_n rfl rfl ?_
        refine mm_aload_n rfl rfl ?_
        refine mm_getI (x := nI (q - ed_lb (J 70) q)) rfl rfl rfl (by decide) rfl (by simp [mm_set]) ?_
        refine mm_iaddN rfl ?_
        refine mm_goto (tgt := 128) rfl (by decide) ?_
        refine mm_putI rfl rfl rfl (by decide) rfl (Or.inl rfl) rfl rfl ?_
        refine mm_return rfl rfl (by decide) (by decide) ?_
        exact ⟨rfl, rfl, by rw [show min ((ed_below (J 70) n t (ed_lb (J 70) q)) + (q - ed_lb (J 70) q)) (ed_le (J 70) n (ed_below (J 70) n t (ed_lb (J 70) q))) = (ed_below (J 70) n t (ed_lb (J 70) q)) + (q - ed_lb (J 70) q) from by omega], rfl⟩
set_option maxRecDepth 100000 in
set_option maxHeartbeats 400000 in
theorem sR_vertical2b {E : mm_E} {G : mm_G} {J : mm_J} (hG : mm_GI G) {n t : Nat} (hn : J 69 3 = nI n) (hn2 : n ≤ 100) (ht : J 69 7 = nI t) (ht9 : t ≤ 9) {q : Nat} (hp : J 69 5 = nI q) (hq : q ≤ n) (hl : J 69 8 = nI 2 ∨ J 69 8 = nI 3) {g : Nat} (hg : J 69 9 = nI g) (hg2 : g ≤ 100) : mm_Ret E qR_vertical [.ref 69, .int (nI 2)] 86 J G none 86 (mm_set J 69 5 (nI (min ((ed_below (J 70) n t (ed_lb (J 70) q)) + g) (ed_le (J 70) n (ed_below (J 70) n t (ed_lb (J 70) q)))))) G := by
  refine mm_Met.of qR_vertical_ok (by decide) (mm_cats rfl) (Nat.le_of_ble_eq_true rfl) ?_
  have hlb := ed_lb_le (f := J 70) (p := q)
  have hbb : (ed_below (J 70) n t (ed_lb (J 70) q)) ≤ n := ed_below_le t _ (by omega)
  refine mm_aload_n rfl rfl ?_
  refine mm_getI rfl rfl rfl (by decide) rfl rfl ?_
  refine mm_iconst (v := nI 2) rfl (by decide) ?_
  refine mm_icmp_eq (tgt := 33) rfl (by decide) (fun h5 => ?_) (fun h5 => ?_)
  · refine mm_aload_n rfl rfl ?_
    refine mm_aload_n rfl rfl ?_
    refine mm_getI (x := nI q) rfl rfl rfl (by decide) rfl hp ?_
    refine mm_isV1 (M2 := qR_lineStart) wd_725 qR_lineStart_k (by decide) (sR_lineStart (J := J) (p := q) hG (by omega)) rfl (by decide) (Nat.le_of_ble_eq_true rfl) (by decide) (by decide) rfl (by decide) ?_
    refine mm_istore_n rfl (by decide) ?_
    refine mm_iconst (v := nI 0) rfl (by decide) ?_
    refine mm_istore_n rfl (by decide) ?_
    refine lR_vert2 (J := J) (b0 := ed_lb (J 70) q) hG (by simp [hn]) hn2 (by simp [ht]) ht9 (fun z => ?_) t _ 0 none rfl (by omega) (by first | omega | exact Nat.le_trans hlb hq) rfl
    refine mm_aload_n rfl rfl ?_
    refine mm_iload_n rfl rfl ?_
    refine mm_isV1 (M2 := qR_lineEnd) wd_685 qR_lineEnd_k (by decide) (sR_lineEnd (n := n) (J := J) hG (by simp [hn]) hn2 hbb) rfl (by decide) (Nat.le_of_ble_eq_true rfl) (by decide) (by decide) rfl (by decide) ?_
    have hle := ed_le_le (f := J 70) hbb
    refine mm_istore_n rfl (by decide) ?_
    refine mm_aload_n rfl rfl ?_
    refine mm_iload_n rfl rfl ?_
    refine mm_aload_n rfl rfl ?_
    refine mm_getI (x := nI g) rfl rfl rfl (by decide) rfl hg ?_
    refine mm_iaddN rfl ?_
    refine mm_iload_n rfl rfl ?_
    refine mm_icmp_geN (tgt := 127) rfl (by decide) (by omega) (by omega) (fun h115 => ?_) (fun h115 => ?_)
    · refine mm_iload_n rfl rfl ?_
      refine mm_putI rfl rfl rfl (by decide) rfl (Or.inl rfl) rfl rfl ?_
      refine mm_return rfl rfl (by decide) (by decide) ?_
      exact ⟨rfl, rfl, by rw [show min ((ed_below (J 70) n t (ed_lb (J 70) q)) + g) (ed_le (J 70) n (ed_below (J 70) n t (ed_lb (J 70) q))) = ed_le (J 70) n (ed_below (J 70) n t (ed_lb (J 70) q)) from by omega], rfl⟩
    · refine mm_iload_n rfl rfl ?_
      refine mm_aload_n rfl rfl ?_
      refine mm_getI (x := nI g) rfl rfl rfl (by decide) rfl hg ?_
      refine mm_iaddN rfl ?_
      refine mm_goto (tgt := 128) rfl (by decide) ?_
      refine mm_putI rfl rfl rfl (by decide) rfl (Or.inl rfl) rfl rfl ?_
      refine mm_return rfl rfl (by decide) (by decide) ?_
      exact ⟨rfl, rfl, by rw [show min ((ed_below (J 70) n t (ed_lb (J 70) q)) + g) (ed_le (J 70) n (ed_below (J 70) n t (ed_lb (J 70) q))) = (ed_below (J 70) n t (ed_lb (J 70) q)) + g from by omega], rfl⟩
  · refine mm_aload_n rfl rfl ?_
    refine mm_getI rfl rfl rfl (by decide) rfl rfl ?_
    refine mm_iconst (v := nI 3) rfl (by decide) ?_
    refine mm_icmp_eq (tgt := 33) rfl (by decide) (fun h13 => ?_) (fun h13 => ?_)
    · refine mm_aload_n rfl rfl ?_
      refine mm_aload_n rfl rfl ?_
      refine mm_getI (x := nI q) rfl rfl rfl (by decide) rfl hp ?_
      refine mm_isV1 (M2 := qR_lineStart) wd_725 qR_lineStart_k (by decide) (sR_lineStart (J := J) (p := q) hG (by omega)) rfl (by decide) (Nat.le_of_ble_eq_true rfl) (by decide) (by decide) rfl (by decide) ?_
      refine mm_istore_n rfl (by decide) ?_
      refine mm_iconst (v := nI 0) rfl (by decide) ?_
      refine mm_istore_n rfl (by decide) ?_
      refine lR_vert2 (J := J) (b0 := ed_lb (J 70) q) hG (by simp [hn]) hn2 (by simp [ht]) ht9 (fun z => ?_) t _ 0 none rfl (by omega) (by first | omega | exact Nat.le_trans hlb hq) rfl
      refine mm_aload_n rfl rfl ?_
      refine mm_iload_n rfl rfl ?_
      refine mm_isV1 (M2 := qR_lineEnd) wd_685 qR_lineEnd_k (by decide) (sR_lineEnd (n := n) (J := J) hG (by simp [hn]) hn2 hbb) rfl (by decide) (Nat.le_of_ble_eq_true rfl) (by decide) (by decide) rfl (by decide) ?_
      have hle := ed_le_le (f := J 70) hbb
      refine mm_istore_n rfl (by decide) ?_
      refine mm_aload_n rfl rfl ?_
      refine mm_iload_n rfl rfl ?_
      refine mm_aload_n rfl rfl ?_
      refine mm_getI (x := nI g) rfl rfl rfl (by decide) rfl hg ?_
      refine mm_iaddN rfl ?_
      refine mm_iload_n rfl rfl ?_
      refine mm_icmp_geN (tgt := 127) rfl (by decide) (by omega) (by omega) (fun h115 => ?_) (fun h115 => ?_)
      · refine mm_iload_n rfl rfl ?_
        refine mm_putI rfl rfl rfl (by decide) rfl (Or.inl rfl) rfl rfl ?_
        refine mm_return rfl rfl (by decide) (by decide) ?_
        exact ⟨rfl, rfl, by rw [show min ((ed_below (J 70) n t (ed_lb (J 70) q)) + g) (ed_le (J 70) n (ed_below (J 70) n t (ed_lb (J 70) q))) = ed_le (J 70) n (ed_below (J 70) n t (ed_lb (J 70) q)) from by omega], rfl⟩
      · refine mm_iload_n rfl rfl ?_
        refine mm_aload_n rfl rfl ?_
        refine mm_getI (x := nI g) rfl rfl rfl (by decide) rfl hg ?_
        refine mm_iaddN rfl ?_
        refine mm_goto (tgt := 128) rfl (by decide) ?_
        refine mm_putI rfl rfl rfl (by decide) rfl (Or.inl rfl) rfl rfl ?_
        refine mm_return rfl rfl (by decide) (by decide) ?_
        exact ⟨rfl, rfl, by rw [show min ((ed_below (J 70) n t (ed_lb (J 70) q)) + g) (ed_le (J 70) n (ed_below (J 70) n t (ed_lb (J 70) q))) = (ed_below (J 70) n t (ed_lb (J 70) q)) + g from by omega], rfl⟩
    · exact absurd hl (fun e => e.elim h5 h13)
set_option maxRecDepth 100000 in
set_option maxHeartbeats 400000 in
theorem lR_vert3 {E : mm_E} {G : mm_G} {J : mm_J} (hG : mm_GI G) {n t : Nat} (hn : J 69 3 = nI n) (hn2 : n ≤ 100) (ht : J 69 7 = nI t) (ht9 : t ≤ 9) {b0 : Nat} {F : mm_F} (kk : ∀ z : Option Value, mm_Go E qR_vertical 101 [some (.ref 69), some (.int (nI 3)), some (.int (nI (ed_above (J 70) t b0))), some (.int (nI t)), z] [] 86 J G 0 0 F) : ∀ (k b i : Nat) (z : Option Value), t - i = k → i ≤ t → b ≤ n → (he : ed_above (J 70) k b = ed_above (J 70) t b0) → mm_Go E qR_vertical 44 [some (.ref 69), some (.int (nI 3)), some (.int (nI b)), some (.int (nI i)), z] [] 86 J G 0 0 F
  | 0, b, i, z, hk, hi, hb, he => by
    refine mm_iload_n rfl rfl ?_
    refine mm_aload_n rfl rfl ?_
    refine mm_getI (x := nI t) rfl rfl rfl (by decide) rfl ht ?_
    refine mm_icmp_geN (tgt := 101) rfl (by decide) (by omega) (by omega) (fun h49 => ?_) (fun h49 => ?_)
    · obtain rfl : t = i := by omega
      rw [show b = ed_above (J 70) t b0 from he]
      exact kk z
    · exact absurd h49 (by omega)
  | k + 1, b, i, z, hk, hi, hb, he => by
    refine mm_iload_n rfl rfl ?_
    refine mm_aload_n rfl rfl ?_
    refine mm_getI (x := nI t) rfl rfl rfl (by decide) rfl ht ?_
    refine mm_icmp_geN (tgt := 101) rfl (by decide) (by omega) (by omega) (fun h49 => ?_) (fun h49 => ?_)
    · exact absurd h49 (by omega)
    · refine mm_aload_n rfl rfl ?_
      refine mm_iload_n rfl rfl ?_
      refine mm_isV1 (M2 := qR_lineEnd) wd_685 qR_lineEnd_k (by decide) (sR_lineEnd hG hn hn2 hb) rfl (by decide) (Nat.le_of_ble_eq_true rfl) (by decide) (by decide) rfl (by decide) ?_
      have hle := ed_le_le (f := J 70) hb
      refine mm_istore rfl (by decide) ?_
      refine mm_iload_n rfl rfl ?_
      refine mm_iconst (v := nI 2) rfl (by decide) ?_
      refine mm_icmp_neN (tgt := 78) rfl (by decide) (by decide) (by decide) (fun _ => ?_) (fun h => absurd h (by decide))
      refine mm_iload_n rfl rfl ?_
      refine mm_iconst (v := nI 3) rfl (by decide) ?_
      refine mm_icmp_neN (tgt := 95) rfl (by decide) (by decide) (by decide) (fun h => absurd h (by decide)) (fun _ => ?_)
      refine mm_iload_n rfl rfl ?_
      refine mm_if_leN (tgt := 95) rfl (by decide) (by omega) (fun h84 => ?_) (fun h84 => ?_)
      · refine mm_iincN rfl rfl (mm_inc1 _) (by decide) ?_
        refine mm_goto (tgt := 44) rfl (by decide) ?_
        exact lR_vert3 hG hn hn2 ht ht9 kk k b (i + 1) _ (by omega) (by omega) (by omega) (by rw [← he, ed_above, if_neg (by omega), h84, ed_above_0])
      · refine mm_aload_n rfl rfl ?_
        refine mm_iload_n rfl rfl ?_
        refine mm_iconst (v := nI 1) rfl (by decide) ?_
        refine mm_isubN rfl (by omega) ?_
        refine mm_isV1 (M2 := qR_lineStart) wd_725 qR_lineStart_k (by decide) (sR_lineStart hG (by omega)) rfl (by decide) (Nat.le_of_ble_eq_true rfl) (by decide) (by decide) rfl (by decide) ?_
        have hlb := ed_lb_le (f := J 70) (p := b - 1)
        refine mm_istore_n rfl (by decide) ?_
        refine mm_iincN rfl rfl (mm_inc1 _) (by decide) ?_
        refine mm_goto (tgt := 44) rfl (by decide) ?_
        exact lR_vert3 hG hn hn2 ht ht9 kk k (ed_lb (J 70) (b - 1)) (i + 1) _ (by omega) (by omega) (by omega) (by rw [← he, ed_above, if_pos h84])
set_option maxRecDepth 100000 in
set_option maxHeartbeats 400000 in
theorem sR_vertical3a {E : mm_E} {G : mm_G} {J : mm_J} (hG : mm_GI G) {n t : Nat} (hn : J 69 3 = nI n) (hn2 : n ≤ 100) (ht : J 69 7 = nI t) (ht9 : t ≤ 9) {q : Nat} (hp : J 69 5 = nI q) (hq : q ≤ n) (hl : ¬ J 69 8 = nI 2 ∧ ¬ J 69 8 = nI 3) : mm_Ret E qR_vertical [.ref 69, .int (nI 3)] 86 J G none 86 (mm_set (mm_set J 69 9 (nI (q - ed_lb (J 70) q))) 69 5 (nI (min ((ed_above (J 70) t (ed_lb (J 70) q)) + (q - ed_lb (J 70) q)) (ed_le (J 70) n (ed_above (J 70) t (ed_lb (J 70) q)))))) G := by
  refine mm_Met.of qR_vertical_ok (by decide) (mm_cats rfl) (Nat.le_of_ble_eq_true rfl) ?_
  have hlb := ed_lb_le (f := J 70) (p := q)
  have hbb : (ed_above (J 70) t (ed_lb (J 70) q)) ≤ n := Nat.le_trans (ed_above_le t _) (by omega)
  refine mm_aload_n rfl rfl ?_
  refine mm_getI rfl rfl rfl (by decide) rfl rfl ?_
  refine mm_iconst (v := nI 2) rfl (by decide) ?_
  refine mm_icmp_eq (tgt := 33) rfl (by decide) (fun h5 => ?_) (fun h5 => ?_)
  · exact absurd h5 hl.1
  · refine mm_aload_n rfl rfl ?_
    refine mm_getI rfl rfl rfl (by decide) rfl rfl ?_
    refine mm_iconst (v := nI 3) rfl (by decide) ?_
    refine mm_icmp_eq (tgt := 33) rfl (by decide) (fun h13 => ?_) (fun h13 => ?_)
    · exact absurd h13 hl.2
    · refine mm_aload_n rfl rfl ?_
      refine mm_aload_n rfl rfl ?_
      refine mm_getI (x := nI q) rfl rfl rfl (by decide) rfl hp ?_
      refine mm_aload_n rfl rfl ?_
      refine mm_aload_n rfl rfl ?_
      refine mm_getI (x := nI q) rfl rfl rfl (by decide) rfl hp ?_
      refine mm_isV1 (M2 := qR_lineStart) wd_725 qR_lineStart_k (by decide) (sR_lineStart hG (by omega)) rfl (by decide) (Nat.le_of_ble_eq_true rfl) (by decide) (by decide) rfl (by decide) ?_
      refine mm_isubN rfl (by omega) ?_
      refine mm_putI rfl rfl rfl (by decide) rfl (Or.inl rfl) rfl rfl ?_
      refine mm_aload_n rfl rfl ?_
      refine mm_aload_n rfl rfl ?_
      refine mm_getI (x := nI q) rfl rfl rfl (by decide) rfl (by simp [mm_set, hp]) ?_
      refine mm_isV1 (M2 := qR_lineStart) wd_725 qR_lineStart_k (by decide) (sR_lineStart (J := (mm_set J 69 9 (nI (q - ed_lb (J 70) q)))) (p := q) hG (by omega)) rfl (by decide) (Nat.le_of_ble_eq_true rfl) (by decide) (by decide) rfl (by decide) ?_
      refine mm_istore_n rfl (by decide) ?_
      refine mm_iconst (v := nI 0) rfl (by decide) ?_
      refine mm_istore_n rfl (by decide) ?_
      refine lR_vert3 (J := (mm_set J 69 9 (nI (q - ed_lb (J 70) q)))) (b0 := ed_lb (J 70) q) hG (by simp [mm_set, hn]) hn2 (by simp [mm_set, ht]) ht9 (fun z => ?_) t _ 0 none rfl (by omega) (by first | omega | exact Nat.le_trans hlb hq) rfl
      refine mm_aload_n rfl rfl ?_
      refine mm_iload_n rfl rfl ?_
      refine mm_isV1 (M2 := qR_lineEnd) wd_685 qR_lineEnd_k (by decide) (sR_lineEnd (n := n) (J := (mm_set J 69 9 (nI (q - ed_lb (J 70) q)))) hG (by simp [mm_set, hn]) hn2 hbb) rfl (by decide) (Nat.le_of_ble_eq_true rfl) (by decide) (by decide) rfl (by decide) ?_
      have hle := ed_le_le (f := J 70) hbb
      rw [show (mm_set J 69 9 (nI (q - ed_lb (J 70) q))) 70 = J 70 from rfl]
      refine mm_istore_n rfl (by decide) ?_
      refine mm_aload_n rfl rfl ?_
      refine mm_iload_n rfl rfl ?_
      refine mm_aload_n rfl rfl ?_
      refine mm_getI (x := nI (q - ed_lb (J 70) q)) rfl rfl rfl (by decide) rfl (by simp [mm_set]) ?_
      refine mm_iaddN rfl ?_
      refine mm_iload_n rfl rfl ?_
      refine mm_icmp_geN (tgt := 127) rfl (by decide) (by omega) (by omega) (fun h115 => ?_) (fun h115 => ?_)
      · refine mm_iload_n rfl rfl ?_
        refine mm_putI rfl rfl rfl (by decide) rfl (Or.inl rfl) rfl rfl ?_
        refine mm_return rfl rfl (by decide) (by decide) ?_
        exact ⟨rfl, rfl, by rw [show min ((ed_above (J 70) t (ed_lb (J 70) q)) + (q - ed_lb (J 70) q)) (ed_le (J 70) n (ed_above (J 70) t (ed_lb (J 70) q))) = ed_le (J 70) n (ed_above (J 70) t (ed_lb (J 70) q)) from by omega], rfl⟩
      · refine mm_iload_n rfl rfl ?_
        refine mm_aload_n rfl rfl ?_
        refine mm_getI (x := nI (q - ed_lb (J 70) q)) rfl rfl rfl (by decide) rfl (by simp [mm_set]) ?_
        refine mm_iaddN rfl ?_
        refine mm_goto (tgt := 128) rfl (by decide) ?_
        refine mm_putI rfl rfl rfl (by decide) rfl (Or.inl rfl) rfl rfl ?_
        refine mm_return rfl rfl (by decide) (by decide) ?_
        exact ⟨rfl, rfl, by rw [show min ((ed_above (J 70) t (ed_lb (J 70) q)) + (q - ed_lb (J 70) q)) (ed_le (J 70) n (ed_above (J 70) t (ed_lb (J 70) q))) = (ed_above (J 70) t (ed_lb (J 70) q)) + (q - ed_lb (J 70) q) from by omega], rfl⟩
set_option maxRecDepth 100000 in
set_option maxHeartbeats 400000 in
theorem sR_vertical3b {E : mm_E} {G : mm_G} {J : mm_J} (hG : mm_GI G) {n t : Nat} (hn : J 69 3 = nI n) (hn2 : n ≤ 100) (ht : J 69 7 = nI t) (ht9 : t ≤ 9) {q : Nat} (hp : J 69 5 = nI q) (hq : q ≤ n) (hl : J 69 8 = nI 2 ∨ J 69 8 = nI 3) {g : Nat} (hg : J 69 9 = nI g) (hg2 : g ≤ 100) : mm_Ret E qR_vertical [.ref 69, .int (nI 3)] 86 J G none 86 (mm_set J 69 5 (nI (min ((ed_above (J 70) t (ed_lb (J 70) q)) + g) (ed_le (J 70) n (ed_above (J 70) t (ed_lb (J 70) q)))))) G := by
  refine mm_Met.of qR_vertical_ok (by decide) (mm_cats rfl) (Nat.le_of_ble_eq_true rfl) ?_
  have hlb := ed_lb_le (f := J 70) (p := q)
  have hbb : (ed_above (J 70) t (ed_lb (J 70) q)) ≤ n := Nat.le_trans (ed_above_le t _) (by omega)
  refine mm_aload_n rfl rfl ?_
  refine mm_getI rfl rfl rfl (by decide) rfl rfl ?_
  refine mm_iconst (v := nI 2) rfl (by decide) ?_
  refine mm_icmp_eq (tgt := 33) rfl (by decide) (fun h5 => ?_) (fun h5 => ?_)
  · refine mm_aload_n rfl rfl ?_
    refine mm_aload_n rfl rfl ?_
    refine mm_getI (x := nI q) rfl rfl rfl (by decide) rfl hp ?_
    refine mm_isV1 (M2 := qR_lineStart) wd_725 qR_lineStart_k (by decide) (sR_lineStart (J := J) (p := q) hG (by omega)) rfl (by decide) (Nat.le_of_ble_eq_true rfl) (by decide) (by decide) rfl (by decide) ?_
    refine mm_istore_n rfl (by decide) ?_
    refine mm_iconst (v := nI 0) rfl (by decide) ?_
    refine mm_istore_n rfl (by decide) ?_
    refine lR_vert3 (J := J) (b0 := ed_lb (J 70) q) hG (by simp [hn]) hn2 (by simp [ht]) ht9 (fun z => ?_) t _ 0 none rfl (by omega) (by first | omega | exact Nat.le_trans hlb hq) rfl
    refine mm_aload_n rfl rfl ?_
    refine mm_iload_n rfl rfl ?_
    refine mm_isV1 (M2 := qR_lineEnd) wd_685 qR_lineEnd_k (by decide) (sR_lineEnd (n := n) (J := J) hG (by simp [hn]) hn2 hbb) rfl (by decide) (Nat.le_of_ble_eq_true rfl) (by decide) (by decide) rfl (by decide) ?_
    have hle := ed_le_le (f := J 70) hbb
    refine mm_istore_n rfl (by decide) ?_
    refine mm_aload_n rfl rfl ?_
    refine mm_iload_n rfl rfl ?_
    refine mm_aload_n rfl rfl ?_
    refine mm_getI (x := nI g) rfl rfl rfl (by decide) rfl hg ?_
    refine mm_iaddN rfl ?_
    refine mm_iload_n rfl rfl ?_
    refine mm_icmp_geN (tgt := 127) rfl (by decide) (by omega) (by omega) (fun h115 => ?_) (fun h115 => ?_)
    · refine mm_iload_n rfl rfl ?_
      refine mm_putI rfl rfl rfl (by decide) rfl (Or.inl rfl) rfl rfl ?_
      refine mm_return rfl rfl (by decide) (by decide) ?_
      exact ⟨rfl, rfl, by rw [show min ((ed_above (J 70) t (ed_lb (J 70) q)) + g) (ed_le (J 70) n (ed_above (J 70) t (ed_lb (J 70) q))) = ed_le (J 70) n (ed_above (J 70) t (ed_lb (J 70) q)) from by omega], rfl⟩
    · refine mm_iload_n rfl rfl ?_
      refine mm_aload_n rfl rfl ?_
      refine mm_getI (x := nI g) rfl rfl rfl (by decide) rfl hg ?_
      refine mm_iaddN rfl ?_
      refine mm_goto (tgt := 128) rfl (by decide) ?_
      refine mm_putI rfl rfl rfl (by decide) rfl (Or.inl rfl) rfl rfl ?_
      refine mm_return rfl rfl (by decide) (by decide) ?_
      exact ⟨rfl, rfl, by rw [show min ((ed_above (J 70) t (ed_lb (J 70) q)) + g) (ed_le (J 70) n (ed_above (J 70) t (ed_lb (J 70) q))) = (ed_above (J 70) t (ed_lb (J 70) q)) + g from by omega], rfl⟩
  · refine mm_aload_n rfl rfl ?_
    refine mm_getI rfl rfl rfl (by decide) rfl rfl ?_
    refine mm_iconst (v := nI 3) rfl (by decide) ?_
    refine mm_icmp_eq (tgt := 33) rfl (by decide) (fun h13 => ?_) (fun h13 => ?_)
    · refine mm_aload_n rfl rfl ?_
      refine mm_aload_n rfl rfl ?_
      refine mm_getI (x := nI q) rfl rfl rfl (by decide) rfl hp ?_
      refine mm_isV1 (M2 := qR_lineStart) wd_725 qR_lineStart_k (by decide) (sR_lineStart (J := J) (p := q) hG (by omega)) rfl (by decide) (Nat.le_of_ble_eq_true rfl) (by decide) (by decide) rfl (by decide) ?_
      refine mm_istore_n rfl (by decide) ?_
      refine mm_iconst (v := nI 0) rfl (by decide) ?_
      refine mm_istore_n rfl (by decide) ?_
      refine lR_vert3 (J := J) (b0 := ed_lb (J 70) q) hG (by simp [hn]) hn2 (by simp [ht]) ht9 (fun z => ?_) t _ 0 none rfl (by omega) (by first | omega | exact Nat.le_trans hlb hq) rfl
      refine mm_aload_n rfl rfl ?_
      refine mm_iload_n rfl rfl ?_
      refine mm_isV1 (M2 := qR_lineEnd) wd_685 qR_lineEnd_k (by decide) (sR_lineEnd (n := n) (J := J) hG (by simp [hn]) hn2 hbb) rfl (by decide) (Nat.le_of_ble_eq_true rfl) (by decide) (by decide) rfl (by decide) ?_
      have hle := ed_le_le (f := J 70) hbb
      refine mm_istore_n rfl (by decide) ?_
      refine mm_aload_n rfl rfl ?_
      refine mm_iload_n rfl rfl ?_
      refine mm_aload_n rfl rfl ?_
      refine mm_getI (x := nI g) rfl rfl rfl (by decide) rfl hg ?_
      refine mm_iaddN rfl ?_
      refine mm_iload_n rfl rfl ?_
      refine mm_icmp_geN (tgt := 127) rfl (by decide) (by omega) (by omega) (fun h115 => ?_) (fun h115 => ?_)
      · refine mm_iload_n rfl rfl ?_
        refine mm_putI rfl rfl rfl (by decide) rfl (Or.inl rfl) rfl rfl ?_
        refine mm_return rfl rfl (by decide) (by decide) ?_
        exact ⟨rfl, rfl, by rw [show min ((ed_above (J 70) t (ed_lb (J 70) q)) + g) (ed_le (J 70) n (ed_above (J 70) t (ed_lb (J 70) q))) = ed_le (J 70) n (ed_above (J 70) t (ed_lb (J 70) q)) from by omega], rfl⟩
      · refine mm_iload_n rfl rfl ?_
        refine mm_aload_n rfl rfl ?_
        refine mm_getI (x := nI g) rfl rfl rfl (by decide) rfl hg ?_
        refine mm_iaddN rfl ?_
        refine mm_goto (tgt := 128) rfl (by decide) ?_
        refine mm_putI rfl rfl rfl (by decide) rfl (Or.inl rfl) rfl rfl ?_
        refine mm_return rfl rfl (by decide) (by decide) ?_
        exact ⟨rfl, rfl, by rw [show min ((ed_above (J 70) t (ed_lb (J 70) q)) + g) (ed_le (J 70) n (ed_above (J 70) t (ed_lb (J 70) q))) = (ed_above (J 70) t (ed_lb (J 70) q)) + g from by omega], rfl⟩
    · exact absurd hl (fun e => e.elim h5 h13)
set_option maxRecDepth 100000 in
set_option maxHeartbeats 400000 in
theorem lR_w1 {E : mm_E} {G : mm_G} {J : mm_J} (hG : mm_GI G) {n : Nat} (hn : J 69 3 = nI n) (hn2 : n ≤ 100) : ∀ (k p i : Nat) (F : mm_F), n - p = k → p ≤ n → (kk : mm_Go E qR_words 53 [some (.ref 69), some (.int (nI 0)), some (.int (nI i))] [] 86 (mm_set J 69 5 (nI (ed_up (ed_nlt (J 70)) k p))) G 0 0 F) → mm_Go E qR_words 10 [some (.ref 69), some (.int (nI 0)), some (.int (nI i))] [] 86 (mm_set J 69 5 (nI p)) G 0 0 F
  | 0, p, i, F, hk, hp, kk => by
    refine mm_iload_n rfl rfl ?_
    refine mm_if_neN (tgt := 53) rfl (by decide) (by decide) (fun h => absurd h (by decide)) (fun _ => ?_)
    refine mm_aload_n rfl rfl ?_
    refine mm_getI (x := nI p) rfl rfl rfl (by decide) rfl (by simp [mm_set]) ?_
    refine mm_aload_n rfl rfl ?_
    refine mm_getI (x := nI n) rfl rfl rfl (by decide) rfl (by simp [mm_set, hn]) ?_
    refine mm_icmp_geN (tgt := 53) rfl (by decide) (by omega) (by omega) (fun h22 => ?_) (fun h22 => ?_)
    · exact kk
    · exact absurd h22 (by omega)
  | k + 1, p, i, F, hk, hp, kk => by
    refine mm_iload_n rfl rfl ?_
    refine mm_if_neN (tgt := 53) rfl (by decide) (by decide) (fun h => absurd h (by decide)) (fun _ => ?_)
    refine mm_aload_n rfl rfl ?_
    refine mm_getI (x := nI p) rfl rfl rfl (by decide) rfl (by simp [mm_set]) ?_
    refine mm_aload_n rfl rfl ?_
    refine mm_getI (x := nI n) rfl rfl rfl (by decide) rfl (by simp [mm_set, hn]) ?_
    refine mm_icmp_geN (tgt := 53) rfl (by decide) (by omega) (by omega) (fun h22 => ?_) (fun h22 => ?_)
    · exact absurd h22 (by omega)
    · refine mm_aload_n rfl rfl ?_
      refine mm_getR rfl rfl rfl (by decide) rfl (mm_gi hG 69 0 70 (by decide)) ?_
      refine mm_aload_n rfl rfl ?_
      refine mm_getI (x := nI p) rfl rfl rfl (by decide) rfl (by simp [mm_set]) ?_
      refine mm_rdN (x := J 70 p) rfl (by decide) rfl (by decide) (by omega) (by decide) rfl (by simp [mm_set]) ?_
      refine mm_isS1 (M2 := qR_letter) wd_635 qR_letter_k (by decide) sR_letter (Nat.le_of_ble_eq_true rfl) (by decide) (by decide) rfl (by decide) ?_
      refine mm_if_neN (tgt := 53) rfl (by decide) (ed_b31 _) (fun h37 => ?_) (fun h37 => ?_)
      · rw [ed_up_n (ed_nlt_n (ed_bne h37))] at kk
        exact kk
      · refine mm_aload_n rfl rfl ?_
        refine mm_dup rfl rfl ?_
        refine mm_getI (x := nI p) rfl rfl rfl (by decide) rfl (by simp [mm_set]) ?_
        refine mm_iconst (v := nI 1) rfl (by decide) ?_
        refine mm_iaddN rfl ?_
        refine mm_putI rfl rfl rfl (by decide) rfl (Or.inl rfl) rfl rfl ?_
        refine mm_goto (tgt := 10) rfl (by decide) ?_
        rw [mm_set_set]
        rw [ed_up_y (ed_nlt_y (ed_beq h37))] at kk
        exact lR_w1 hG hn hn2 k (p + 1) i F (by omega) (by omega) kk
set_option maxRecDepth 100000 in
set_option maxHeartbeats 400000 in
theorem lR_w2 {E : mm_E} {G : mm_G} {J : mm_J} (hG : mm_GI G) {n : Nat} (hn : J 69 3 = nI n) (hn2 : n ≤ 100) : ∀ (k p i : Nat) (F : mm_F), n - p = k → p ≤ n → (kk : mm_Go E qR_words 96 [some (.ref 69), some (.int (nI 0)), some (.int (nI i))] [] 86 (mm_set J 69 5 (nI (ed_up (ed_lt (J 70)) k p))) G 0 0 F) → mm_Go E qR_words 53 [some (.ref 69), some (.int (nI 0)), some (.int (nI i))] [] 86 (mm_set J 69 5 (nI p)) G 0 0 F
  | 0, p, i, F, hk, hp, kk => by
    refine mm_iload_n rfl rfl ?_
    refine mm_if_neN (tgt := 96) rfl (by decide) (by decide) (fun h => absurd h (by decide)) (fun _ => ?_)
    refine mm_aload_n rfl rfl ?_
    refine mm_getI (x := nI p) rfl rfl rfl (by decide) rfl (by simp [mm_set]) ?_
    refine mm_aload_n rfl rfl ?_
    refine mm_getI (x := nI n) rfl rfl rfl (by decide) rfl (by simp [mm_set, hn]) ?_
    refine mm_icmp_geN (tgt := 96) rfl (by decide) (by omega) (by omega) (fun h65 => ?_) (fun h65 => ?_)
    · exact kk
    · exact absurd h65 (by omega)
  | k + 1, p, i, F, hk, hp, kk => by
    refine mm_iload_n rfl rfl ?_
    refine mm_if_neN (tgt := 96) rfl (by decide) (by decide) (fun h => absurd h (by decide)) (fun _ => ?_)
    refine mm_aload_n rfl rfl ?_
    refine mm_getI (x := nI p) rfl rfl rfl (by decide) rfl (by simp [mm_set]) ?_
    refine mm_aload_n rfl rfl ?_
    refine mm_getI (x := nI n) rfl rfl rfl (by decide) rfl (by simp [mm_set, hn]) ?_
    refine mm_icmp_geN (tgt := 96) rfl (by decide) (by omega) (by omega) (fun h65 => ?_) (fun h65 => ?_)
    · exact absurd h65 (by omega)
    · refine mm_aload_n rfl rfl ?_
      refine mm_getR rfl rfl rfl (by decide) rfl (mm_gi hG 69 0 70 (by decide)) ?_
      refine mm_aload_n rfl rfl ?_
      refine mm_getI (x := nI p) rfl rfl rfl (by decide) rfl (by simp [mm_set]) ?_
      refine mm_rdN (x := J 70 p) rfl (by decide) rfl (by decide) (by omega) (by decide) rfl (by simp [mm_set]) ?_
      refine mm_isS1 (M2 := qR_letter) wd_635 qR_letter_k (by decide) sR_letter (Nat.le_of_ble_eq_true rfl) (by decide) (by decide) rfl (by decide) ?_
      refine mm_if_eqN (tgt := 96) rfl (by decide) (ed_b31 _) (fun h80 => ?_) (fun h80 => ?_)
      · rw [ed_up_n (ed_beq h80)] at kk
        exact kk
      · refine mm_aload_n rfl rfl ?_
        refine mm_dup rfl rfl ?_
        refine mm_getI (x := nI p) rfl rfl rfl (by decide) rfl (by simp [mm_set]) ?_
        refine mm_iconst (v := nI 1) rfl (by decide) ?_
        refine mm_iaddN rfl ?_
        refine mm_putI rfl rfl rfl (by decide) rfl (Or.inl rfl) rfl rfl ?_
        refine mm_goto (tgt := 53) rfl (by decide) ?_
        rw [mm_set_set]
        rw [ed_up_y (ed_bne h80)] at kk
        exact lR_w2 hG hn hn2 k (p + 1) i F (by omega) (by omega) kk
set_option maxRecDepth 100000 in
set_option maxHeartbeats 400000 in
theorem lR_w3 {E : mm_E} {G : mm_G} {J : mm_J} (hG : mm_GI G) {n : Nat} (hn : J 69 3 = nI n) (hn2 : n ≤ 100) : ∀ (p i : Nat) (F : mm_F), p ≤ 100 → (kk : mm_Go E qR_words 137 [some (.ref 69), some (.int (nI 1)), some (.int (nI i))] [] 86 (mm_set J 69 5 (nI (ed_dn (ed_nlt (J 70)) p))) G 0 0 F) → mm_Go E qR_words 96 [some (.ref 69), some (.int (nI 1)), some (.int (nI i))] [] 86 (mm_set J 69 5 (nI p)) G 0 0 F
  | 0, i, F, hp, kk => by
    refine mm_iload_n rfl rfl ?_
    refine mm_if_eqN (tgt := 137) rfl (by decide) (by decide) (fun h => absurd h (by decide)) (fun _ => ?_)
    refine mm_aload_n rfl rfl ?_
    refine mm_getI (x := nI 0) rfl rfl rfl (by decide) rfl (by simp [mm_set]) ?_
    refine mm_if_leN (tgt := 137) rfl (by decide) (by omega) (fun h104 => ?_) (fun h104 => ?_)
    · exact kk
    · exact absurd h104 (by omega)
  | p + 1, i, F, hp, kk => by
    refine mm_iload_n rfl rfl ?_
    refine mm_if_eqN (tgt := 137) rfl (by decide) (by decide) (fun h => absurd h (by decide)) (fun _ => ?_)
    refine mm_aload_n rfl rfl ?_
    refine mm_getI (x := nI (p + 1)) rfl rfl rfl (by decide) rfl (by simp [mm_set]) ?_
    refine mm_if_leN (tgt := 137) rfl (by decide) (by omega) (fun h104 => ?_) (fun h104 => ?_)
    · exact absurd h104 (by omega)
    · refine mm_aload_n rfl rfl ?_
      refine mm_getR rfl rfl rfl (by decide) rfl (mm_gi hG 69 0 70 (by decide)) ?_
      refine mm_aload_n rfl rfl ?_
      refine mm_getI (x := nI (p + 1)) rfl rfl rfl (by decide) rfl (by simp [mm_set]) ?_
      refine mm_iconst (v := nI 1) rfl (by decide) ?_
      refine mm_isubN rfl (by omega) ?_
      refine mm_rdN (x := J 70 (p + 1 - 1)) rfl (by decide) rfl (by decide) (by omega) (by decide) rfl (by simp [mm_set]) ?_
      refine mm_isS1 (M2 := qR_letter) wd_635 qR_letter_k (by decide) sR_letter (Nat.le_of_ble_eq_true rfl) (by decide) (by decide) rfl (by decide) ?_
      refine mm_if_neN (tgt := 137) rfl (by decide) (ed_b31 _) (fun h121 => ?_) (fun h121 => ?_)
      · rw [ed_dn_n (q := ed_nlt (J 70)) (p := p) (ed_nlt_n (ed_bne h121))] at kk
        exact kk
      · refine mm_aload_n rfl rfl ?_
        refine mm_dup rfl rfl ?_
        refine mm_getI (x := nI (p + 1)) rfl rfl rfl (by decide) rfl (by simp [mm_set]) ?_
        refine mm_iconst (v := nI 1) rfl (by decide) ?_
        refine mm_isubN rfl (by omega) ?_
        refine mm_putI rfl rfl rfl (by decide) rfl (Or.inl rfl) rfl rfl ?_
        refine mm_goto (tgt := 96) rfl (by decide) ?_
        rw [mm_set_set]
        rw [ed_dn_y (q := ed_nlt (J 70)) (p := p) (ed_nlt_y (ed_beq h121))] at kk
        exact lR_w3 hG hn hn2 p i F (by omega) kk
set_option maxRecDepth 100000 in
set_option maxHeartbeats 400000 in
theorem lR_w4 {E : mm_E} {G : mm_G} {J : mm_J} (hG : mm_GI G) {n : Nat} (hn : J 69 3 = nI n) (hn2 : n ≤ 100) : ∀ (p i : Nat) (F : mm_F), p ≤ 100 → (kk : mm_Go E qR_words 178 [some (.ref 69), some (.int (nI 1)), some (.int (nI i))] [] 86 (mm_set J 69 5 (nI (ed_dn (ed_lt (J 70)) p))) G 0 0 F) → mm_Go E qR_words 137 [some (.ref 69), some (.int (nI 1)), some (.int (nI i))] [] 86 (mm_set J 69 5 (nI p)) G 0 0 F
  | 0, i, F, hp, kk => by
    refine mm_iload_n rfl rfl ?_
    refine mm_if_eqN (tgt := 178) rfl (by decide) (by decide) (fun h => absurd h (by decide)) (fun _ => ?_)
    refine mm_aload_n rfl rfl ?_
    refine mm_getI (x := nI 0) rfl rfl rfl (by decide) rfl (by simp [mm_set]) ?_
    refine mm_if_leN (tgt := 178) rfl (by decide) (by omega) (fun h145 => ?_) (fun h145 => ?_)
    · exact kk
    · exact absurd h145 (by omega)
  | p + 1, i, F, hp, kk => by
    refine mm_iload_n rfl rfl ?_
    refine mm_if_eqN (tgt := 178) rfl (by decide) (by decide) (fun h => absurd h (by decide)) (fun _ => ?_)
    refine mm_aload_n rfl rfl ?_
    refine mm_getI (x := nI (p + 1)) rfl rfl rfl (by decide) rfl (by simp [mm_set]) ?_
    refine mm_if_leN (tgt := 178) rfl (by decide) (by omega) (fun h145 => ?_) (fun h145 => ?_)
    · exact absurd h145 (by omega)
    · refine mm_aload_n rfl rfl ?_
      refine mm_getR rfl rfl rfl (by decide) rfl (mm_gi hG 69 0 70 (by decide)) ?_
      refine mm_aload_n rfl rfl ?_
      refine mm_getI (x := nI (p + 1)) rfl rfl rfl (by decide) rfl (by simp [mm_set]) ?_
      refine mm_iconst (v := nI 1) rfl (by decide) ?_
      refine mm_isubN rfl (by omega) ?_
      refine mm_rdN (x := J 70 (p + 1 - 1)) rfl (by decide) rfl (by decide) (by omega) (by decide) rfl (by simp [mm_set]) ?_
      refine mm_isS1 (M2 := qR_letter) wd_635 qR_letter_k (by decide) sR_letter (Nat.le_of_ble_eq_true rfl) (by decide) (by decide) rfl (by decide) ?_
      refine mm_if_eqN (tgt := 178) rfl (by decide) (ed_b31 _) (fun h162 => ?_) (fun h162 => ?_)
      · rw [ed_dn_n (q := ed_lt (J 70)) (p := p) (ed_beq h162)] at kk
        exact kk
      · refine mm_aload_n rfl rfl ?_
        refine mm_dup rfl rfl ?_
        refine mm_getI (x := nI (p + 1)) rfl rfl rfl (by decide) rfl (by simp [mm_set]) ?_
        refine mm_iconst (v := nI 1) rfl (by decide) ?_
        refine mm_isubN rfl (by omega) ?_
        refine mm_putI rfl rfl rfl (by decide) rfl (Or.inl rfl) rfl rfl ?_
        refine mm_goto (tgt := 137) rfl (by decide) ?_
        rw [mm_set_set]
        rw [ed_dn_y (q := ed_lt (J 70)) (p := p) (ed_bne h162)] at kk
        exact lR_w4 hG hn hn2 p i F (by omega) kk
set_option maxRecDepth 100000 in
set_option maxHeartbeats 400000 in
theorem lR_wordsF {E : mm_E} {G : mm_G} {J : mm_J} (hG : mm_GI G) {n t : Nat} (hn : J 69 3 = nI n) (hn2 : n ≤ 100) (ht : J 69 7 = nI t) (ht9 : t ≤ 9) {p0 : Nat} : ∀ (k p i : Nat), t - i = k → i ≤ t → p ≤ n → (he : ed_fw (J 70) n t p0 = ed_fw (J 70) n k p) → mm_Go E qR_words 2 [some (.ref 69), some (.int (nI 0)), some (.int (nI i))] [] 86 (mm_set J 69 5 (nI p)) G 0 0 (mm_Fm E qR_words (mm_is none 86 (mm_set J 69 5 (nI (ed_fw (J 70) n t p0))) G))
  | 0, p, i, hk, hi, hp, he => by
    refine mm_iload_n rfl rfl ?_
    refine mm_aload_n rfl rfl ?_
    refine mm_getI (x := nI t) rfl rfl rfl (by decide) rfl (by simp [mm_set, ht]) ?_
    refine mm_icmp_geN (tgt := 184) rfl (by decide) (by omega) (by omega) (fun h7 => ?_) (fun h7 => ?_)
    · refine mm_return rfl rfl (by decide) (by decide) ?_
      exact ⟨rfl, rfl, by rw [show ed_fw (J 70) n t p0 = p from he], rfl⟩
    · exact absurd h7 (by omega)
  | k + 1, p, i, hk, hi, hp, he => by
    refine mm_iload_n rfl rfl ?_
    refine mm_aload_n rfl rfl ?_
    refine mm_getI (x := nI t) rfl rfl rfl (by decide) rfl (by simp [mm_set, ht]) ?_
    refine mm_icmp_geN (tgt := 184) rfl (by decide) (by omega) (by omega) (fun h7 => ?_) (fun h7 => ?_)
    · exact absurd h7 (by omega)
    · have h1 := ed_up_le (ed_nlt (J 70)) (n - p) p
      have h2 := ed_up_le (ed_lt (J 70)) (n - ed_up (ed_nlt (J 70)) (n - p) p) (ed_up (ed_nlt (J 70)) (n - p) p)
      refine lR_w1 hG hn hn2 (n - p) p i _ rfl hp ?_
      refine lR_w2 hG hn hn2 (n - ed_up (ed_nlt (J 70)) (n - p) p) _ i _ rfl (by omega) ?_
      refine mm_iload_n rfl rfl ?_
      refine mm_if_eqN (tgt := 137) rfl (by decide) (by decide) (fun _ => ?_) (fun h => absurd h (by decide))
      refine mm_iload_n rfl rfl ?_
      refine mm_if_eqN (tgt := 178) rfl (by decide) (by decide) (fun _ => ?_) (fun h => absurd h (by decide))
      refine mm_iincN rfl rfl (mm_inc1 _) (by decide) ?_
      refine mm_goto (tgt := 2) rfl (by decide) ?_
      exact lR_wordsF hG hn hn2 ht ht9 k _ (i + 1) (by omega) (by omega) (by omega) (by rw [he, ed_fw])
set_option maxRecDepth 100000 in
set_option maxHeartbeats 400000 in
theorem lR_wordsB {E : mm_E} {G : mm_G} {J : mm_J} (hG : mm_GI G) {n t : Nat} (hn : J 69 3 = nI n) (hn2 : n ≤ 100) (ht : J 69 7 = nI t) (ht9 : t ≤ 9) {p0 : Nat} : ∀ (k p i : Nat), t - i = k → i ≤ t → p ≤ n → (he : ed_bw (J 70) t p0 = ed_bw (J 70) k p) → mm_Go E qR_words 2 [some (.ref 69), some (.int (nI 1)), some (.int (nI i))] [] 86 (mm_set J 69 5 (nI p)) G 0 0 (mm_Fm E qR_words (mm_is none 86 (mm_set J 69 5 (nI (ed_bw (J 70) t p0))) G))
  | 0, p, i, hk, hi, hp, he => by
    refine mm_iload_n rfl rfl ?_
    refine mm_aload_n rfl rfl ?_
    refine mm_getI (x := nI t) rfl rfl rfl (by decide) rfl (by simp [mm_set, ht]) ?_
    refine mm_icmp_geN (tgt := 184) rfl (by decide) (by omega) (by omega) (fun h7 => ?_) (fun h7 => ?_)
    · refine mm_return rfl rfl (by decide) (by decide) ?_
      exact ⟨rfl, rfl, by rw [show ed_bw (J 70) t p0 = p from he], rfl⟩
    · exact absurd h7 (by omega)
  | k + 1, p, i, hk, hi, hp, he => by
    refine mm_iload_n rfl rfl ?_
    refine mm_aload_n rfl rfl ?_
    refine mm_getI (x := nI t) rfl rfl rfl (by decide) rfl (by simp [mm_set, ht]) ?_
    refine mm_icmp_geN (tgt := 184) rfl (by decide) (by omega) (by omega) (fun h7 => ?_) (fun h7 => ?_)
    · exact absurd h7 (by omega)
    · refine mm_iload_n rfl rfl ?_
      refine mm_if_neN (tgt := 53) rfl (by decide) (by decide) (fun _ => ?_) (fun h => absurd h (by decide))
      refine mm_iload_n rfl rfl ?_
      refine mm_if_neN (tgt := 96) rfl (by decide) (by decide) (fun _ => ?_) (fun h => absurd h (by decide))
      have h1 := ed_dn_le (ed_nlt (J 70)) p
      have h2 := ed_dn_le (ed_lt (J 70)) (ed_dn (ed_nlt (J 70)) p)
      refine lR_w3 hG hn hn2 p i _ (by omega) ?_
      refine lR_w4 hG hn hn2 _ i _ (by omega) ?_
      refine mm_iincN rfl rfl (mm_inc1 _) (by decide) ?_
      refine mm_goto (tgt := 2) rfl (by decide) ?_
      exact lR_wordsB hG hn hn2 ht ht9 k _ (i + 1) (by omega) (by omega) (by omega) (by rw [he, ed_bw])
set_option maxRecDepth 100000 in
set_option maxHeartbeats 400000 in
theorem sR_words0 {E : mm_E} {G : mm_G} {J : mm_J} (hG : mm_GI G) {n t : Nat} (hn : J 69 3 = nI n) (hn2 : n ≤ 100) (ht : J 69 7 = nI t) (ht9 : t ≤ 9) {q : Nat} (hp : J 69 5 = nI q) (hq : q ≤ n) : mm_Ret E qR_words [.ref 69, .int (nI 0)] 86 J G none 86 (mm_set J 69 5 (nI (ed_fw (J 70) n t q))) G := by
  refine mm_Met.of qR_words_ok (by decide) (mm_cats rfl) (Nat.le_of_ble_eq_true rfl) ?_
  refine mm_iconst (v := nI 0) rfl (by decide) ?_
  refine mm_istore_n rfl (by decide) ?_
  exact mm_J_eq (mm_set_self hp).symm (lR_wordsF hG hn hn2 ht ht9 t q 0 rfl (by omega) hq rfl)
set_option maxRecDepth 100000 in
set_option maxHeartbeats 400000 in
theorem sR_words1 {E : mm_E} {G : mm_G} {J : mm_J} (hG : mm_GI G) {n t : Nat} (hn : J 69 3 = nI n) (hn2 : n ≤ 100) (ht : J 69 7 = nI t) (ht9 : t ≤ 9) {q : Nat} (hp : J 69 5 = nI q) (hq : q ≤ n) : mm_Ret E qR_words [.ref 69, .int (nI 1)] 86 J G none 86 (mm_set J 69 5 (nI (ed_bw (J 70) t q))) G := by
  refine mm_Met.of qR_words_ok (by decide) (mm_cats rfl) (Nat.le_of_ble_eq_true rfl) ?_
  refine mm_iconst (v := nI 0) rfl (by decide) ?_
  refine mm_istore_n rfl (by decide) ?_
  exact mm_J_eq (mm_set_self hp).symm (lR_wordsB hG hn hn2 ht ht9 t q 0 rfl (by omega) hq rfl)
end
