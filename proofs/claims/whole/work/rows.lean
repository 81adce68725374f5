section
-- ===== PART A: goes FIRST, ahead of the names: the tables' words, and 'selects' of the private methods out of them =====
/-- a private method of a class that the tables say can be made, by its rows of tables_1 -/
def lw_okq (q : MethodName × Nat) : Prop := (q.1.cls ≠ "java/lang/invoke/MethodHandle" ∧ q.1.cls ≠ "java/lang/invoke/VarHandle") ∧ Cond.instantiable q.1.cls q.2 ∈ tables_1 ∧ Cond.privateMethod q.1 ∈ tables_1 ∧ Cond.instanceMethod q.1 ∈ tables_1
theorem lw_p0 : lw_okq (⟨"FrameTables", "identifierOf", "(I)I"⟩, 7) := ⟨⟨by decide +kernel, by decide +kernel⟩, List.mem_of_getElem? (i := 14) (by decide +kernel), List.mem_of_getElem? (i := 211) (by decide +kernel), List.mem_of_getElem? (i := 212) (by decide +kernel)⟩
theorem lw_p1 : lw_okq (⟨"FrameTables$Table", "comesBefore", "(II)Z"⟩, 7) := ⟨⟨by decide +kernel, by decide +kernel⟩, List.mem_of_getElem? (i := 22) (by decide +kernel), List.mem_of_getElem? (i := 224) (by decide +kernel), List.mem_of_getElem? (i := 225) (by decide +kernel)⟩
theorem lw_p2 : lw_okq (⟨"FrameTables$Search", "lay", "(LFrameTables$Table;)V"⟩, 9) := ⟨⟨by decide +kernel, by decide +kernel⟩, List.mem_of_getElem? (i := 100) (by decide +kernel), List.mem_of_getElem? (i := 256) (by decide +kernel), List.mem_of_getElem? (i := 257) (by decide +kernel)⟩
theorem lw_p3 : lw_okq (⟨"FrameTables$Search", "enter", "(II)V"⟩, 9) := ⟨⟨by decide +kernel, by decide +kernel⟩, List.mem_of_getElem? (i := 100) (by decide +kernel), List.mem_of_getElem? (i := 268) (by decide +kernel), List.mem_of_getElem? (i := 269) (by decide +kernel)⟩
theorem lw_p4 : lw_okq (⟨"FrameTables$Search", "mostBeginsWith", "(II)I"⟩, 9) := ⟨⟨by decide +kernel, by decide +kernel⟩, List.mem_of_getElem? (i := 100) (by decide +kernel), List.mem_of_getElem? (i := 281) (by decide +kernel), List.mem_of_getElem? (i := 282) (by decide +kernel)⟩
theorem lw_p5 : lw_okq (⟨"FrameTables$Search", "goOn", "(II)V"⟩, 9) := ⟨⟨by decide +kernel, by decide +kernel⟩, List.mem_of_getElem? (i := 100) (by decide +kernel), List.mem_of_getElem? (i := 288) (by decide +kernel), List.mem_of_getElem? (i := 289) (by decide +kernel)⟩
theorem lw_p6 : lw_okq (⟨"FrameTables$Search", "addBegins", "(III)V"⟩, 9) := ⟨⟨by decide +kernel, by decide +kernel⟩, List.mem_of_getElem? (i := 100) (by decide +kernel), List.mem_of_getElem? (i := 292) (by decide +kernel), List.mem_of_getElem? (i := 293) (by decide +kernel)⟩
theorem lw_p7 : lw_okq (⟨"FrameTables$Search", "keepRow", "(I)V"⟩, 9) := ⟨⟨by decide +kernel, by decide +kernel⟩, List.mem_of_getElem? (i := 100) (by decide +kernel), List.mem_of_getElem? (i := 296) (by decide +kernel), List.mem_of_getElem? (i := 297) (by decide +kernel)⟩
theorem lw_p8 : lw_okq (⟨"FrameTables$Search", "leaveClosedPlaces", "()V"⟩, 9) := ⟨⟨by decide +kernel, by decide +kernel⟩, List.mem_of_getElem? (i := 100) (by decide +kernel), List.mem_of_getElem? (i := 300) (by decide +kernel), List.mem_of_getElem? (i := 301) (by decide +kernel)⟩
theorem lw_p9 : lw_okq (⟨"FrameTables$Search", "isClosed", "(I)Z"⟩, 9) := ⟨⟨by decide +kernel, by decide +kernel⟩, List.mem_of_getElem? (i := 100) (by decide +kernel), List.mem_of_getElem? (i := 304) (by decide +kernel), List.mem_of_getElem? (i := 305) (by decide +kernel)⟩
theorem lw_p10 : lw_okq (⟨"FrameTables", "breaks", "(II)Z"⟩, 7) := ⟨⟨by decide +kernel, by decide +kernel⟩, List.mem_of_getElem? (i := 14) (by decide +kernel), List.mem_of_getElem? (i := 347) (by decide +kernel), List.mem_of_getElem? (i := 348) (by decide +kernel)⟩
theorem lw_p11 : lw_okq (⟨"FrameTables$Parser", "takeLine", "(IILFrameTables$Table;)Z"⟩, 4) := ⟨⟨by decide +kernel, by decide +kernel⟩, List.mem_of_getElem? (i := 81) (by decide +kernel), List.mem_of_getElem? (i := 387) (by decide +kernel), List.mem_of_getElem? (i := 388) (by decide +kernel)⟩
theorem lw_p12 : lw_okq (⟨"FrameTables$Parser", "nextWord", "()Z"⟩, 4) := ⟨⟨by decide +kernel, by decide +kernel⟩, List.mem_of_getElem? (i := 81) (by decide +kernel), List.mem_of_getElem? (i := 391) (by decide +kernel), List.mem_of_getElem? (i := 392) (by decide +kernel)⟩
theorem lw_p13 : lw_okq (⟨"FrameTables$Parser", "wordIs", "(Ljava/lang/String;)Z"⟩, 4) := ⟨⟨by decide +kernel, by decide +kernel⟩, List.mem_of_getElem? (i := 81) (by decide +kernel), List.mem_of_getElem? (i := 396) (by decide +kernel), List.mem_of_getElem? (i := 397) (by decide +kernel)⟩
theorem lw_p14 : lw_okq (⟨"FrameTables$Parser", "takeFrame", "(LFrameTables$Table;)Z"⟩, 4) := ⟨⟨by decide +kernel, by decide +kernel⟩, List.mem_of_getElem? (i := 81) (by decide +kernel), List.mem_of_getElem? (i := 448) (by decide +kernel), List.mem_of_getElem? (i := 449) (by decide +kernel)⟩
theorem lw_p15 : lw_okq (⟨"FrameTables$Parser", "nextNumber", "()I"⟩, 4) := ⟨⟨by decide +kernel, by decide +kernel⟩, List.mem_of_getElem? (i := 81) (by decide +kernel), List.mem_of_getElem? (i := 452) (by decide +kernel), List.mem_of_getElem? (i := 453) (by decide +kernel)⟩
def lw_privs_1 : List (MethodName × Nat) := [(⟨"FrameTables", "identifierOf", "(I)I"⟩, 7), (⟨"FrameTables$Table", "comesBefore", "(II)Z"⟩, 7), (⟨"FrameTables$Search", "lay", "(LFrameTables$Table;)V"⟩, 9), (⟨"FrameTables$Search", "enter", "(II)V"⟩, 9), (⟨"FrameTables$Search", "mostBeginsWith", "(II)I"⟩, 9), (⟨"FrameTables$Search", "goOn", "(II)V"⟩, 9), (⟨"FrameTables$Search", "addBegins", "(III)V"⟩, 9), (⟨"FrameTables$Search", "keepRow", "(I)V"⟩, 9), (⟨"FrameTables$Search", "leaveClosedPlaces", "()V"⟩, 9), (⟨"FrameTables$Search", "isClosed", "(I)Z"⟩, 9), (⟨"FrameTables", "breaks", "(II)Z"⟩, 7), (⟨"FrameTables$Parser", "takeLine", "(IILFrameTables$Table;)Z"⟩, 4), (⟨"FrameTables$Parser", "nextWord", "()Z"⟩, 4), (⟨"FrameTables$Parser", "wordIs", "(Ljava/lang/String;)Z"⟩, 4), (⟨"FrameTables$Parser", "takeFrame", "(LFrameTables$Table;)Z"⟩, 4), (⟨"FrameTables$Parser", "nextNumber", "()I"⟩, 4)]
theorem lw_r1 : ∀ q ∈ lw_privs_1, lw_okq q := List.forall_mem_cons.mpr ⟨lw_p0, List.forall_mem_cons.mpr ⟨lw_p1, List.forall_mem_cons.mpr ⟨lw_p2, List.forall_mem_cons.mpr ⟨lw_p3, List.forall_mem_cons.mpr ⟨lw_p4, List.forall_mem_cons.mpr ⟨lw_p5, List.forall_mem_cons.mpr ⟨lw_p6, List.forall_mem_cons.mpr ⟨lw_p7, List.forall_mem_cons.mpr ⟨lw_p8, List.forall_mem_cons.mpr ⟨lw_p9, List.forall_mem_cons.mpr ⟨lw_p10, List.forall_mem_cons.mpr ⟨lw_p11, List.forall_mem_cons.mpr ⟨lw_p12, List.forall_mem_cons.mpr ⟨lw_p13, List.forall_mem_cons.mpr ⟨lw_p14, List.forall_mem_cons.mpr ⟨lw_p15, fun _ h => absurd h List.not_mem_nil⟩⟩⟩⟩⟩⟩⟩⟩⟩⟩⟩⟩⟩⟩⟩⟩
theorem lw_p16 : lw_okq (⟨"FrameTables$Parser", "takeReaders", "(LFrameTables$Table;)Z"⟩, 4) := ⟨⟨by decide +kernel, by decide +kernel⟩, List.mem_of_getElem? (i := 81) (by decide +kernel), List.mem_of_getElem? (i := 461) (by decide +kernel), List.mem_of_getElem? (i := 462) (by decide +kernel)⟩
theorem lw_p17 : lw_okq (⟨"FrameTables$Parser", "mayRead", "(LFrameTables$Table;II)Z"⟩, 4) := ⟨⟨by decide +kernel, by decide +kernel⟩, List.mem_of_getElem? (i := 81) (by decide +kernel), List.mem_of_getElem? (i := 466) (by decide +kernel), List.mem_of_getElem? (i := 467) (by decide +kernel)⟩
theorem lw_p18 : lw_okq (⟨"FrameTables", "writeLine", "(I)V"⟩, 7) := ⟨⟨by decide +kernel, by decide +kernel⟩, List.mem_of_getElem? (i := 14) (by decide +kernel), List.mem_of_getElem? (i := 482) (by decide +kernel), List.mem_of_getElem? (i := 483) (by decide +kernel)⟩
theorem lw_p19 : lw_okq (⟨"FrameTablesModel", "isFrame", "(I)Z"⟩, 19) := ⟨⟨by decide +kernel, by decide +kernel⟩, List.mem_of_getElem? (i := 527) (by decide +kernel), List.mem_of_getElem? (i := 605) (by decide +kernel), List.mem_of_getElem? (i := 606) (by decide +kernel)⟩
theorem lw_p20 : lw_okq (⟨"FrameTablesModel", "readers", "(I)I"⟩, 19) := ⟨⟨by decide +kernel, by decide +kernel⟩, List.mem_of_getElem? (i := 527) (by decide +kernel), List.mem_of_getElem? (i := 610) (by decide +kernel), List.mem_of_getElem? (i := 611) (by decide +kernel)⟩
theorem lw_p21 : lw_okq (⟨"FrameTablesModel", "identifierOf", "(I)I"⟩, 19) := ⟨⟨by decide +kernel, by decide +kernel⟩, List.mem_of_getElem? (i := 527) (by decide +kernel), List.mem_of_getElem? (i := 618) (by decide +kernel), List.mem_of_getElem? (i := 619) (by decide +kernel)⟩
theorem lw_p22 : lw_okq (⟨"FrameTablesModel", "findCounted", "()I"⟩, 19) := ⟨⟨by decide +kernel, by decide +kernel⟩, List.mem_of_getElem? (i := 527) (by decide +kernel), List.mem_of_getElem? (i := 633) (by decide +kernel), List.mem_of_getElem? (i := 634) (by decide +kernel)⟩
theorem lw_p23 : lw_okq (⟨"FrameTablesModel", "clearLoad", "()V"⟩, 19) := ⟨⟨by decide +kernel, by decide +kernel⟩, List.mem_of_getElem? (i := 527) (by decide +kernel), List.mem_of_getElem? (i := 637) (by decide +kernel), List.mem_of_getElem? (i := 638) (by decide +kernel)⟩
theorem lw_p24 : lw_okq (⟨"FrameTablesModel", "search", "(IJ)Z"⟩, 19) := ⟨⟨by decide +kernel, by decide +kernel⟩, List.mem_of_getElem? (i := 527) (by decide +kernel), List.mem_of_getElem? (i := 641) (by decide +kernel), List.mem_of_getElem? (i := 642) (by decide +kernel)⟩
theorem lw_p25 : lw_okq (⟨"FrameTablesModel", "begin", "(III)V"⟩, 19) := ⟨⟨by decide +kernel, by decide +kernel⟩, List.mem_of_getElem? (i := 527) (by decide +kernel), List.mem_of_getElem? (i := 645) (by decide +kernel), List.mem_of_getElem? (i := 646) (by decide +kernel)⟩
theorem lw_p26 : lw_okq (⟨"FrameTablesModel", "peak", "()I"⟩, 19) := ⟨⟨by decide +kernel, by decide +kernel⟩, List.mem_of_getElem? (i := 527) (by decide +kernel), List.mem_of_getElem? (i := 649) (by decide +kernel), List.mem_of_getElem? (i := 650) (by decide +kernel)⟩
theorem lw_p27 : lw_okq (⟨"FrameTablesModel", "takeBest", "(I)V"⟩, 19) := ⟨⟨by decide +kernel, by decide +kernel⟩, List.mem_of_getElem? (i := 527) (by decide +kernel), List.mem_of_getElem? (i := 653) (by decide +kernel), List.mem_of_getElem? (i := 654) (by decide +kernel)⟩
theorem lw_p28 : lw_okq (⟨"FrameTablesModel", "isWrong", "(II)Z"⟩, 19) := ⟨⟨by decide +kernel, by decide +kernel⟩, List.mem_of_getElem? (i := 527) (by decide +kernel), List.mem_of_getElem? (i := 673) (by decide +kernel), List.mem_of_getElem? (i := 674) (by decide +kernel)⟩
theorem lw_p29 : lw_okq (⟨"FrameTablesModel", "type", "(I)V"⟩, 19) := ⟨⟨by decide +kernel, by decide +kernel⟩, List.mem_of_getElem? (i := 527) (by decide +kernel), List.mem_of_getElem? (i := 681) (by decide +kernel), List.mem_of_getElem? (i := 682) (by decide +kernel)⟩
theorem lw_p30 : lw_okq (⟨"FrameTablesModel", "typeWord", "(Z)V"⟩, 19) := ⟨⟨by decide +kernel, by decide +kernel⟩, List.mem_of_getElem? (i := 527) (by decide +kernel), List.mem_of_getElem? (i := 689) (by decide +kernel), List.mem_of_getElem? (i := 690) (by decide +kernel)⟩
theorem lw_p31 : lw_okq (⟨"FrameTablesModel", "typeNumber", "(I)V"⟩, 19) := ⟨⟨by decide +kernel, by decide +kernel⟩, List.mem_of_getElem? (i := 527) (by decide +kernel), List.mem_of_getElem? (i := 693) (by decide +kernel), List.mem_of_getElem? (i := 694) (by decide +kernel)⟩
def lw_privs_2 : List (MethodName × Nat) := [(⟨"FrameTables$Parser", "takeReaders", "(LFrameTables$Table;)Z"⟩, 4), (⟨"FrameTables$Parser", "mayRead", "(LFrameTables$Table;II)Z"⟩, 4), (⟨"FrameTables", "writeLine", "(I)V"⟩, 7), (⟨"FrameTablesModel", "isFrame", "(I)Z"⟩, 19), (⟨"FrameTablesModel", "readers", "(I)I"⟩, 19), (⟨"FrameTablesModel", "identifierOf", "(I)I"⟩, 19), (⟨"FrameTablesModel", "findCounted", "()I"⟩, 19), (⟨"FrameTablesModel", "clearLoad", "()V"⟩, 19), (⟨"FrameTablesModel", "search", "(IJ)Z"⟩, 19), (⟨"FrameTablesModel", "begin", "(III)V"⟩, 19), (⟨"FrameTablesModel", "peak", "()I"⟩, 19), (⟨"FrameTablesModel", "takeBest", "(I)V"⟩, 19), (⟨"FrameTablesModel", "isWrong", "(II)Z"⟩, 19), (⟨"FrameTablesModel", "type", "(I)V"⟩, 19), (⟨"FrameTablesModel", "typeWord", "(Z)V"⟩, 19), (⟨"FrameTablesModel", "typeNumber", "(I)V"⟩, 19)]
theorem lw_r2 : ∀ q ∈ lw_privs_2, lw_okq q := List.forall_mem_cons.mpr ⟨lw_p16, List.forall_mem_cons.mpr ⟨lw_p17, List.forall_mem_cons.mpr ⟨lw_p18, List.forall_mem_cons.mpr ⟨lw_p19, List.forall_mem_cons.mpr ⟨lw_p20, List.forall_mem_cons.mpr ⟨lw_p21, List.forall_mem_cons.mpr ⟨lw_p22, List.forall_mem_cons.mpr ⟨lw_p23, List.forall_mem_cons.mpr ⟨lw_p24, List.forall_mem_cons.mpr ⟨lw_p25, List.forall_mem_cons.mpr ⟨lw_p26, List.forall_mem_cons.mpr ⟨lw_p27, List.forall_mem_cons.mpr ⟨lw_p28, List.forall_mem_cons.mpr ⟨lw_p29, List.forall_mem_cons.mpr ⟨lw_p30, List.forall_mem_cons.mpr ⟨lw_p31, fun _ h => absurd h List.not_mem_nil⟩⟩⟩⟩⟩⟩⟩⟩⟩⟩⟩⟩⟩⟩⟩⟩
theorem lw_p32 : lw_okq (⟨"FrameTablesModel", "passSpaces", "()V"⟩, 19) := ⟨⟨by decide +kernel, by decide +kernel⟩, List.mem_of_getElem? (i := 527) (by decide +kernel), List.mem_of_getElem? (i := 705) (by decide +kernel), List.mem_of_getElem? (i := 706) (by decide +kernel)⟩
theorem lw_p33 : lw_okq (⟨"FrameTablesModel", "at0", "()I"⟩, 19) := ⟨⟨by decide +kernel, by decide +kernel⟩, List.mem_of_getElem? (i := 527) (by decide +kernel), List.mem_of_getElem? (i := 709) (by decide +kernel), List.mem_of_getElem? (i := 710) (by decide +kernel)⟩
theorem lw_p34 : lw_okq (⟨"FrameTablesModel", "isEnd", "()Z"⟩, 19) := ⟨⟨by decide +kernel, by decide +kernel⟩, List.mem_of_getElem? (i := 527) (by decide +kernel), List.mem_of_getElem? (i := 713) (by decide +kernel), List.mem_of_getElem? (i := 714) (by decide +kernel)⟩
theorem lw_p35 : lw_okq (⟨"FrameTablesModel", "isLine", "(I)Z"⟩, 19) := ⟨⟨by decide +kernel, by decide +kernel⟩, List.mem_of_getElem? (i := 527) (by decide +kernel), List.mem_of_getElem? (i := 717) (by decide +kernel), List.mem_of_getElem? (i := 718) (by decide +kernel)⟩
theorem lw_p36 : lw_okq (⟨"FrameTablesModel", "isWord", "(Z)Z"⟩, 19) := ⟨⟨by decide +kernel, by decide +kernel⟩, List.mem_of_getElem? (i := 527) (by decide +kernel), List.mem_of_getElem? (i := 721) (by decide +kernel), List.mem_of_getElem? (i := 722) (by decide +kernel)⟩
theorem lw_p37 : lw_okq (⟨"FrameTablesModel", "isBetween", "()Z"⟩, 19) := ⟨⟨by decide +kernel, by decide +kernel⟩, List.mem_of_getElem? (i := 527) (by decide +kernel), List.mem_of_getElem? (i := 725) (by decide +kernel), List.mem_of_getElem? (i := 726) (by decide +kernel)⟩
theorem lw_p38 : lw_okq (⟨"FrameTablesModel", "isNumber", "(II)Z"⟩, 19) := ⟨⟨by decide +kernel, by decide +kernel⟩, List.mem_of_getElem? (i := 527) (by decide +kernel), List.mem_of_getElem? (i := 729) (by decide +kernel), List.mem_of_getElem? (i := 730) (by decide +kernel)⟩
theorem lw_p39 : lw_okq (⟨"FrameTablesModel", "takeFrames", "(I)V"⟩, 19) := ⟨⟨by decide +kernel, by decide +kernel⟩, List.mem_of_getElem? (i := 527) (by decide +kernel), List.mem_of_getElem? (i := 733) (by decide +kernel), List.mem_of_getElem? (i := 734) (by decide +kernel)⟩
def lw_privs_3 : List (MethodName × Nat) := [(⟨"FrameTablesModel", "passSpaces", "()V"⟩, 19), (⟨"FrameTablesModel", "at0", "()I"⟩, 19), (⟨"FrameTablesModel", "isEnd", "()Z"⟩, 19), (⟨"FrameTablesModel", "isLine", "(I)Z"⟩, 19), (⟨"FrameTablesModel", "isWord", "(Z)Z"⟩, 19), (⟨"FrameTablesModel", "isBetween", "()Z"⟩, 19), (⟨"FrameTablesModel", "isNumber", "(II)Z"⟩, 19), (⟨"FrameTablesModel", "takeFrames", "(I)V"⟩, 19)]
theorem lw_r3 : ∀ q ∈ lw_privs_3, lw_okq q := List.forall_mem_cons.mpr ⟨lw_p32, List.forall_mem_cons.mpr ⟨lw_p33, List.forall_mem_cons.mpr ⟨lw_p34, List.forall_mem_cons.mpr ⟨lw_p35, List.forall_mem_cons.mpr ⟨lw_p36, List.forall_mem_cons.mpr ⟨lw_p37, List.forall_mem_cons.mpr ⟨lw_p38, List.forall_mem_cons.mpr ⟨lw_p39, fun _ h => absurd h List.not_mem_nil⟩⟩⟩⟩⟩⟩⟩⟩
def lw_privs : List (MethodName × Nat) := lw_privs_1 ++ (lw_privs_2 ++ (lw_privs_3))
def lw_tbl : List Cond := k2_sels lw_privs ++ tables_1
theorem lw_privs_ok : ∀ q ∈ lw_privs, lw_okq q := by
  show ∀ q ∈ lw_privs_1 ++ (lw_privs_2 ++ (lw_privs_3)), lw_okq q
  exact List.forall_mem_append.mpr ⟨lw_r1, List.forall_mem_append.mpr ⟨lw_r2, lw_r3⟩⟩
end
section
/-! names: the classes that the worlds hold, the words of the tables, what is said of literals and nest mates -/
def fT0 : u_T := fun k => match k with
  | 0 => ("FrameTables", "table", "LFrameTables$Table;", false)
  | 1 => ("FrameTables", "draft", "LFrameTables$Table;", false)
  | 2 => ("FrameTables", "spans", "LFrameTables$Spans;", true)
  | 3 => ("FrameTables", "text", "LFrameTables$Text;", true)
  | 4 => ("FrameTables", "parser", "LFrameTables$Parser;", true)
  | 5 => ("FrameTables", "search", "LFrameTables$Search;", true)
  | _ => ("FrameTables", "spreadWasExact", "Z", false)
def t0_ : Nat → FieldType := fun k => match k with
  | 0 => .object "FrameTables$Table"
  | 1 => .object "FrameTables$Table"
  | 2 => .object "FrameTables$Spans"
  | 3 => .object "FrameTables$Text"
  | 4 => .object "FrameTables$Parser"
  | 5 => .object "FrameTables$Search"
  | _ => .boolean
def fT1 : u_T := fun k => match k with
  | 0 => ("FrameTables$Table", "senders", "[I", true)
  | 1 => ("FrameTables$Table", "periods", "[I", true)
  | 2 => ("FrameTables$Table", "ranks", "[I", true)
  | 3 => ("FrameTables$Table", "gaps", "[I", true)
  | 4 => ("FrameTables$Table", "offsets", "[I", true)
  | 5 => ("FrameTables$Table", "timeouts", "[I", true)
  | _ => ("FrameTables$Table", "size", "I", false)
def t1_ : Nat → FieldType := fun k => match k with
  | 0 => .array .int
  | 1 => .array .int
  | 2 => .array .int
  | 3 => .array .int
  | 4 => .array .int
  | 5 => .array .int
  | _ => .int
def fT2 : u_T := fun k => match k with
  | 0 => ("FrameTables$Spans", "firsts", "[I", true)
  | _ => ("FrameTables$Spans", "lasts", "[I", true)
def t2_ : Nat → FieldType := fun k => match k with
  | 0 => .array .int
  | _ => .array .int
def fT3 : u_T := fun k => match k with
  | 0 => ("FrameTables$Text", "signs", "[C", true)
  | 1 => ("FrameTables$Text", "length", "I", false)
  | _ => ("FrameTables$Text", "lostSigns", "Z", false)
def t3_ : Nat → FieldType := fun k => match k with
  | 0 => .array .char
  | 1 => .int
  | _ => .boolean
def fT4 : u_T := fun k => match k with
  | 0 => ("FrameTables$Parser", "text", "LFrameTables$Text;", true)
  | 1 => ("FrameTables$Parser", "wordStart", "I", false)
  | 2 => ("FrameTables$Parser", "wordEnd", "I", false)
  | _ => ("FrameTables$Parser", "lineEnd", "I", false)
def t4_ : Nat → FieldType := fun k => match k with
  | 0 => .object "FrameTables$Text"
  | 1 => .int
  | 2 => .int
  | _ => .int
def fT5 : u_T := fun k => match k with
  | 0 => ("FrameTables$Search", "frames", "[I", true)
  | 1 => ("FrameTables$Search", "strides", "[I", true)
  | 2 => ("FrameTables$Search", "nextOffsets", "[I", true)
  | 3 => ("FrameTables$Search", "peaksBefore", "[I", true)
  | 4 => ("FrameTables$Search", "bestRow", "[I", true)
  | 5 => ("FrameTables$Search", "begins", "[I", true)
  | 6 => ("FrameTables$Search", "places", "I", false)
  | 7 => ("FrameTables$Search", "place", "I", false)
  | _ => ("FrameTables$Search", "bestPeak", "I", false)
def t5_ : Nat → FieldType := fun k => match k with
  | 0 => .array .int
  | 1 => .array .int
  | 2 => .array .int
  | 3 => .array .int
  | 4 => .array .int
  | 5 => .array .int
  | 6 => .int
  | 7 => .int
  | _ => .int
def fT6 : u_T := fun k => match k with
  | 0 => ("FrameTablesModel", "code", "I", false)
  | 1 => ("FrameTablesModel", "frames", "I", false)
  | 2 => ("FrameTablesModel", "sender", "[I", true)
  | 3 => ("FrameTablesModel", "period", "[I", true)
  | 4 => ("FrameTablesModel", "rank", "[I", true)
  | 5 => ("FrameTablesModel", "gap", "[I", true)
  | 6 => ("FrameTablesModel", "offset", "[I", true)
  | 7 => ("FrameTablesModel", "timeout", "[I", true)
  | 8 => ("FrameTablesModel", "from", "[I", true)
  | 9 => ("FrameTablesModel", "to", "[I", true)
  | 10 => ("FrameTablesModel", "isExact", "Z", false)
  | 11 => ("FrameTablesModel", "size", "I", false)
  | 12 => ("FrameTablesModel", "text", "[I", true)
  | 13 => ("FrameTablesModel", "load", "[I", true)
  | 14 => ("FrameTablesModel", "row", "[I", true)
  | 15 => ("FrameTablesModel", "which", "[I", true)
  | 16 => ("FrameTablesModel", "best", "[I", true)
  | 17 => ("FrameTablesModel", "place", "I", false)
  | _ => ("FrameTablesModel", "number", "I", false)
def t6_ : Nat → FieldType := fun k => match k with
  | 0 => .int
  | 1 => .int
  | 2 => .array .int
  | 3 => .array .int
  | 4 => .array .int
  | 5 => .array .int
  | 6 => .array .int
  | 7 => .array .int
  | 8 => .array .int
  | 9 => .array .int
  | 10 => .boolean
  | 11 => .int
  | 12 => .array .int
  | 13 => .array .int
  | 14 => .array .int
  | 15 => .array .int
  | 16 => .array .int
  | 17 => .int
  | _ => .int
abbrev vwCl : List vw_C := [("FrameTables", fT0, 7), ("FrameTables$Table", fT1, 7), ("FrameTables$Spans", fT2, 2), ("FrameTables$Text", fT3, 3), ("FrameTables$Parser", fT4, 4), ("FrameTables$Search", fT5, 9), ("FrameTablesModel", fT6, 19)]
def wT : List Cond := lw_tbl.filter goodWord
theorem wT_good : GoodIn wT wT := fun w h => ⟨h, good_of_word (List.mem_filter.mp h).2⟩
theorem wT_m {w : Cond} (i : Nat) (h : lw_tbl[i]? = some w) (hg : goodWord w = true) : w ∈ wT := List.mem_filter.mpr ⟨List.mem_of_getElem? h, hg⟩
abbrev TyS : Type := List (ClassId × FieldType) × (Nat → Nat)
def wN : List (String × Nat × MethodName × String) := [("FrameTables", 9, ⟨"FrameTables$Table", "<init>", "()V"⟩, "FrameTables"), ("FrameTables", 28, ⟨"FrameTables$Text", "<init>", "()V"⟩, "FrameTables"), ("FrameTables", 44, ⟨"FrameTables$Search", "<init>", "()V"⟩, "FrameTables"), ("FrameTables$Parser", 64, ⟨"FrameTables", "isNode", "(I)Z"⟩, "FrameTables"), ("FrameTables$Parser", 68, ⟨"FrameTables", "isPeriod", "(I)Z"⟩, "FrameTables"), ("FrameTables$Parser", 71, ⟨"FrameTables", "isRank", "(I)Z"⟩, "FrameTables")]
def sRf : List (String × Nat × String × Nat) := [("FrameTables$Parser", 48, "frame", 0), ("FrameTables$Parser", 81, "reads", 1), ("FrameTables", 177, "frame", 0), ("FrameTables", 195, "reads", 1)]
abbrev nSt : Nat := 2
def sLen : List Nat := [5, 5]
def sNat : List (List Nat) := [[102, 114, 97, 109, 101], [114, 101, 97, 100, 115]]
def sByt : List (List Int32) := [[102, 114, 97, 109, 101], [114, 101, 97, 100, 115]]
def sln (i : Nat) : Nat := sLen.getD i 0
/-! the two literals -/
def sch (i j : Nat) : Nat := (sNat.getD i []).getD j 0
theorem sln_le (i : Nat) : sln i ≤ 5 := by
  match i with
  | 0 => decide
  | 1 => decide
  | _ + 2 => exact Nat.zero_le _
theorem sch_le (i j : Nat) : sch i j ≤ 255 := by
  match i with
  | 0 =>
    match j with
    | 0 => decide
    | 1 => decide
    | 2 => decide
    | 3 => decide
    | 4 => decide
    | _ + 5 => exact Nat.zero_le _
  | 1 =>
    match j with
    | 0 => decide
    | 1 => decide
    | 2 => decide
    | 3 => decide
    | 4 => decide
    | _ + 5 => exact Nat.zero_le _
  | _ + 2 => exact Nat.zero_le _
/-- what else holds at every call: nest mates' links, the literals (outside A), COMPACT_STRINGS -/
def SF (E : Nat → Nat) (A : Nat → Prop) (U : State) : Prop :=
  (∀ q ∈ wN, va_Nw (.methodLinkNest q.1 q.2.1 q.2.2.1 q.2.2.2) U) ∧ (∀ q ∈ sRf, vk_R q.1 q.2.1 q.2.2.1 (E q.2.2.2) U) ∧ vk_S nSt sLen sByt E (fun i => E (i + nSt)) A U U.heap ∧ va_Z "java/lang/String" "COMPACT_STRINGS" "Z" (.int 1) A U U.heap ∧ ∃ v : Value, (v = .null ∨ ∃ a : Nat, v = .ref a) ∧ va_Z "jdk/internal/util/Preconditions" "SIOOBE_FORMATTER" "Ljava/util/function/BiFunction;" v A U U.heap
theorem SF_calling {E : Nat → Nat} {A : Nat → Prop} {U : State} {g : JFrame} {mk : MethodId} {a : Array Value} (h : SF E A U) : SF E A (U.calling g mk a) :=
  ⟨fun q hq => va_Nw.same rfl (u := U) rfl (h.1 q hq), fun q hq => vk_R.same (u := U) rfl (h.2.1 q hq), vk_S.moved (u := U) (Vm.Alike.refl U.vm) h.2.2.1, va_Z.moved (u := U) (Vm.Alike.refl U.vm) h.2.2.2.1, by obtain ⟨v, h1, h2⟩ := h.2.2.2.2; exact ⟨v, h1, va_Z.moved (u := U) (Vm.Alike.refl U.vm) h2⟩⟩
theorem SF_call {E : Nat → Nat} {A B : Nat → Prop} {s U : State} {H : Heap} {locs : List Loc} (h : SF E A s) (hS : va_S A s.heap H locs) (hF : ∀ q, B q → A q) (hU : U.heap = H) (hW : s.WarmedH U.vm) : SF E B U := by
  refine ⟨fun q hq => va_Nw.warmM hW (h.1 q hq), fun q hq => vk_R.warm hW (h.2.1 q hq), ?_, ?_, ?_⟩
  · rw [hU]; exact vk_S.moved hW.alike ((h.2.2.1.kept hS.2.1).narrow hF)
  · rw [hU]; exact va_Z.moved hW.alike ((h.2.2.2.1.kept hS.2.1).narrow hF)
  · obtain ⟨v, h1, h2⟩ := h.2.2.2.2
    rw [hU]; exact ⟨v, h1, va_Z.moved hW.alike ((h2.kept hS.2.1).narrow hF)⟩
end
section
/-! V: the machine walk over pure data. Own rows; each stands on a row of the kit. -/
def iI (z : Int) : Int32 := Int32.ofInt z
theorem iI_nat (a : Nat) : iI (a : Int) = nI a := Int32.ofInt_eq_ofNat
theorem nI_iI (a : Nat) : nI a = iI (a : Int) := (iI_nat a).symm
theorem iI_toInt {z : Int} (h1 : -2147483648 ≤ z) (h2 : z < 2147483648) : (iI z).toInt = z := Int32.toInt_ofInt_of_le (by simpa using h1) (by simpa using h2)
theorem iI_add (a b : Int) : iI a + iI b = iI (a + b) := (Int32.ofInt_add a b).symm
theorem iI_sub (a b : Int) : iI a - iI b = iI (a - b) := (Int32.ofInt_sub a b).symm
theorem iI_mul (a b : Int) : iI a * iI b = iI (a * b) := (Int32.ofInt_mul a b).symm
theorem iI_neg (a : Int) : -iI a = iI (-a) := (Int32.ofInt_neg a).symm
theorem iI_raw (x : Int32) : iI x.toInt = x := Int32.ofInt_toInt x
theorem nT {a : Nat} (h : a < 2147483648) : (nI a).toInt = (a : Int) := nI_toInt (by simpa using h)
def jI (z : Int) : Int64 := Int64.ofInt z
theorem jI_toInt {z : Int} (h1 : -9223372036854775808 ≤ z) (h2 : z < 9223372036854775808) : (jI z).toInt = z := Int64.toInt_ofInt_of_le (by simpa using h1) (by simpa using h2)
theorem jI_add (a b : Int) : jI a + jI b = jI (a + b) := (Int64.ofInt_add a b).symm
theorem jI_raw (x : Int64) : jI x.toInt = x := Int64.ofInt_toInt x
noncomputable def bI (P : Prop) : Int32 := @ite Int32 P (Classical.propDecidable P) 1 0
theorem bI_t {P : Prop} (h : P) : bI P = 1 := by unfold bI; exact if_pos h
theorem bI_f {P : Prop} (h : ¬ P) : bI P = 0 := by unfold bI; exact if_neg h
theorem bI_1 {P : Prop} (h : P) : nI 1 = bI P := (bI_t h).symm
theorem bI_0 {P : Prop} (h : ¬ P) : nI 0 = bI P := (bI_f h).symm
theorem bI_z {P : Prop} : bI P = 0 ↔ ¬ P := ⟨fun h q => by rw [bI_t q] at h; exact absurd h (by decide), bI_f⟩
theorem bI_c {P Q : Prop} (h : P ↔ Q) : bI P = bI Q := by rw [propext h]
theorem bI_nar (P : Prop) : narrow .boolean (.int (bI P)) = .int (bI P) := by
  by_cases h : P
  · rw [bI_t h]; decide
  · rw [bI_f h]; decide
theorem nI_inc (a b : Nat) : nI a + Int32.ofInt (b : Int) = nI (a + b) := by rw [show Int32.ofInt (b : Int) = nI b from Int32.ofInt_eq_ofNat, nI_add]
theorem iI_inc {x : Int32} {z b : Int} (h : x = iI z) : x + Int32.ofInt b = iI (z + b) := by rw [h]; exact iI_add z b
theorem iI_nn {z : Int} (h : 0 ≤ z) : iI z = nI z.toNat := by rw [← iI_nat, Int.toNat_of_nonneg h]
theorem oct_eq (x s : Int32) (k : Nat) (hs : ((s.toUInt32 &&& Int32.toUInt32 31).toBitVec % 32).toNat = k) : (x.toUInt32 >>> (s.toUInt32 &&& Int32.toUInt32 31)).toInt32 &&& nI 255 = nI (x.toBitVec.toNat / 2 ^ k % 256) := by rw [pk_and _ 8 (by decide), pk_ushr x s k hs]
theorem iI_ton {z : Int} {k : Nat} (h : z = (k : Int)) : iI z = nI k := by rw [h, iI_nat]
theorem bI_fit (P : Prop) : fits .boolean (.int (bI P)) = true := by
  by_cases h : P
  · rw [bI_t h]; decide
  · rw [bI_f h]; decide
def rmD (d : Nat) : Room := { frames := d, cells := 0, slots := 0, locals := 40 * d }
def rmA (d mc ms : Nat) : Room := { frames := d, cells := mc, slots := ms, locals := 40 * d }
def zF : Nat → Nat := fun _ => 0
def adr (l : List Nat) : Nat → Nat := fun k => l.getD k 0
def TY (cI cC : ClassId) (E : Nat → Nat) : TyS := ([(cI, .int), (cC, .char)], E)
def updN (f : Nat → Nat) (k x : Nat) : Nat → Nat := fun j => if j = k then x else f j
theorem updN_s (f : Nat → Nat) (k x : Nat) : updN f k x k = x := if_pos rfl
theorem updN_n {f : Nat → Nat} {k x j : Nat} (h : j ≠ k) : updN f k x j = f j := if_neg h
def updZ (f : Nat → Int) (k : Nat) (x : Int) : Nat → Int := fun j => if j = k then x else f j
theorem updZ_s (f : Nat → Int) (k : Nat) (x : Int) : updZ f k x k = x := if_pos rfl
theorem updZ_n {f : Nat → Int} {k j : Nat} {x : Int} (h : j ≠ k) : updZ f k x j = f j := if_neg h
theorem upd_nI (f : Nat → Nat) (k x : Nat) : upd (fun j => nI (f j)) k (nI x) = fun j => nI (updN f k x j) := by
  funext j
  unfold upd updN
  by_cases h : j = k
  · rw [if_pos h, if_pos h]
  · rw [if_neg h, if_neg h]
theorem upd_iI (f : Nat → Int) (k : Nat) (x : Int) : upd (fun j => iI (f j)) k (iI x) = fun j => iI (updZ f k x j) := by
  funext j
  unfold upd updZ
  by_cases h : j = k
  · rw [if_pos h, if_pos h]
  · rw [if_neg h, if_neg h]
def pickW (ws : va_W) (is : List Nat) : va_W := is.filterMap (fun i => ws[i]?)
theorem pickW_map {ws : va_W} {is : List Nat} (h : ∀ i ∈ is, i < ws.length) : is.map (fun i => ws[i]?) = (pickW ws is).map some := by
  unfold pickW
  induction is with
  | nil => rfl
  | cons i is ih =>
    have h1 : ws[i]? = some (ws[i]'(h i List.mem_cons_self)) := List.getElem?_eq_getElem _
    rw [List.map_cons, List.filterMap_cons, h1]
    simp only [List.map_cons]
    rw [← ih (fun j hj => h j (List.mem_cons_of_mem _ hj))]
abbrev MI : Type := MethodName × ByteArray × Nat × Option FieldType
def Cx (p : Program) (s : State) (m : MethodId) (args : Array Value) (meth : Method) (c : Code) (cc : ByteArray) (nL : Nat) (own : String) (D : va_G) (tys : TyS) (A : Nat → Prop) : Prop :=
  p.tables.exec = Jvm.exec ∧ c.code = cc ∧ c.maxLocals = nL ∧ s.vm.findClass own = some m.cls ∧ (∀ w ∈ wT, w.before args s = true) ∧ va_K D vwCl tys.1 s ∧ (∀ q : Nat, s.heap.size ≤ q → A q) ∧ meth.locks = false ∧ SF tys.2 A s
def V (p : Program) (l : Launch) (e : Env) (R : Room) (s : State) (m : MethodId) (args : Array Value) (below : List Frame) (meth : Method) (c : Code) (nL : Nat) (D : va_G) (A : Nat → Prop) (cells slots : Nat) (Q : State → Prop) (ws : va_W) (lv : List (Nat × Value)) (pc : Nat) (st : List Value) : Prop :=
  ∀ (H : Heap) (locs : List Loc) (ls : Array Slot), va_P D vwCl ws H → va_D A ws → va_S A s.heap H locs → lv_has ls nL lv → W p l e R s m args below meth c H locs cells slots Q (F0 m pc ls st)
def CI (l : Launch) (D : va_G) (tys : TyS) (M : MI) (rm : Room) (As : List Value) (W0 : va_W) (R : Int32) (W1 : va_W) : Prop :=
  ∀ sz : Nat, Met l M.1 (.code M.1 M.2.1 M.2.2.1 M.2.2.2 :: wT) rm (va_Pc As (fun U => U.heap.size = sz ∧ va_P D vwCl W0 U.heap ∧ va_K D vwCl tys.1 U ∧ va_D (fun _ => True) W0 ∧ SF tys.2 (va_A W0 sz) U)) (va_Qi (fun (r : Int32) (_ : Unit) => r = R) (fun _ t => va_P D vwCl W1 t.heap ∧ va_K D vwCl tys.1 t ∧ va_D (va_A W0 sz) W1) (va_A W0 sz)) 0 0 (va_A W0 sz)
def CN (l : Launch) (D : va_G) (tys : TyS) (M : MI) (rm : Room) (As : List Value) (W0 : va_W) {S : Type} (post : S → Prop) (W1 : S → va_W) (mc ms : Nat) : Prop :=
  ∀ sz : Nat, Met l M.1 (.code M.1 M.2.1 M.2.2.1 M.2.2.2 :: wT) rm (va_Pc As (fun U => U.heap.size = sz ∧ va_P D vwCl W0 U.heap ∧ va_K D vwCl tys.1 U ∧ va_D (fun _ => True) W0 ∧ SF tys.2 (va_A W0 sz) U)) (va_Qv post (fun u t => va_P D vwCl (W1 u) t.heap ∧ va_K D vwCl tys.1 t ∧ va_D (va_A W0 sz) (W1 u)) (va_A W0 sz)) mc ms (va_A W0 sz)
def CV (l : Launch) (D : va_G) (tys : TyS) (M : MI) (rm : Room) (As : List Value) (W0 W1 : va_W) : Prop := CN l D tys M rm As W0 (fun _ : Unit => True) (fun _ => W1) 0 0
def okc (M : MI) (n : Nat) : Prop := M.1.cls ≠ "java/lang/invoke/MethodHandle" ∧ M.1.cls ≠ "java/lang/invoke/VarHandle" ∧ (parseMethodDescriptor M.1.desc).map (fun d => d.parameters.length) = some n
/-- the words of a call: virtual, static, of a constructor; and of a nest mate's -/
def cwv (own : String) (idx : Nat) (M : MI) (n : Nat) : Prop := .methodLink own idx M.1 ∈ wT ∧ .instanceMethod M.1 ∈ wT ∧ .selects M.1.cls M.1 M.1 ∈ wT ∧ .initialized M.1.cls ∈ wT ∧ .code M.1 M.2.1 M.2.2.1 M.2.2.2 ∈ wT ∧ okc M n
def cws (own : String) (idx : Nat) (M : MI) (n : Nat) : Prop := .methodLink own idx M.1 ∈ wT ∧ .static M.1 ∈ wT ∧ .initialized M.1.cls ∈ wT ∧ .code M.1 M.2.1 M.2.2.1 M.2.2.2 ∈ wT ∧ okc M n
def cwi (own : String) (idx : Nat) (M : MI) (n : Nat) : Prop := .methodLink own idx M.1 ∈ wT ∧ .instanceMethod M.1 ∈ wT ∧ .initialized M.1.cls ∈ wT ∧ .code M.1 M.2.1 M.2.2.1 M.2.2.2 ∈ wT ∧ M.1.name = "<init>" ∧ okc M n
def cwsN (own : String) (idx : Nat) (M : MI) (n : Nat) (host : String) : Prop := (own, idx, M.1, host) ∈ wN ∧ .static M.1 ∈ wT ∧ .initialized M.1.cls ∈ wT ∧ .code M.1 M.2.1 M.2.2.1 M.2.2.2 ∈ wT ∧ okc M n
def cwiN (own : String) (idx : Nat) (M : MI) (n : Nat) (host : String) : Prop := (own, idx, M.1, host) ∈ wN ∧ .instanceMethod M.1 ∈ wT ∧ .initialized M.1.cls ∈ wT ∧ .code M.1 M.2.1 M.2.2.1 M.2.2.2 ∈ wT ∧ M.1.name = "<init>" ∧ okc M n
theorem good_cons {y : MethodName} {b : ByteArray} {n : Nat} {r : Option FieldType} (h : .code y b n r ∈ wT) : GoodIn wT (.code y b n r :: wT) := by
  intro w hw
  rcases List.mem_cons.mp hw with e | e
  · subst e; exact wT_good _ h
  · exact wT_good _ e
section VR
variable {p : Program} {l : Launch} {e : Env} {R : Room} {s : State} {m : MethodId} {args : Array Value} {below : List Frame} {meth : Method} {c : Code}
variable {cc : ByteArray} {nL : Nat} {own : String} {D : va_G} {tys : TyS} {A : Nat → Prop} {cells slots : Nat} {Q : State → Prop}
variable {ws ws' : va_W} {lv lv' : List (Nat × Value)} {st rest : List Value} {pc n : Nat}
theorem V.iconst (C : Cx p s m args meth c cc nL own D tys A) {z : Int} {v : Int32} (hdg : decode cc pc = .ok (.iconst z, 1)) (hv : Int32.ofInt z = v) (hn : pc + 1 = n) (k : V p l e R s m args below meth c nL D A cells slots Q ws lv n (.int v :: st)) : V p l e R s m args below meth c nL D A cells slots Q ws lv pc st := by
  subst hn
  intro H locs ls hP hD hS hl
  exact lv_iconst C.1 C.2.1 hdg hv (k H locs ls hP hD hS hl)
theorem V.bipush (C : Cx p s m args meth c cc nL own D tys A) {z : Int} {v : Int32} (hdg : decode cc pc = .ok (.bipush z, 2)) (hv : (Int8.ofInt z).toInt32 = v) (hn : pc + 2 = n) (k : V p l e R s m args below meth c nL D A cells slots Q ws lv n (.int v :: st)) : V p l e R s m args below meth c nL D A cells slots Q ws lv pc st := by
  subst hn
  intro H locs ls hP hD hS hl
  exact lv_bipush C.1 C.2.1 hdg hv (k H locs ls hP hD hS hl)
theorem V.sipush (C : Cx p s m args meth c cc nL own D tys A) {z : Int} {v : Int32} (hdg : decode cc pc = .ok (.sipush z, 3)) (hv : (Int16.ofInt z).toInt32 = v) (hn : pc + 3 = n) (k : V p l e R s m args below meth c nL D A cells slots Q ws lv n (.int v :: st)) : V p l e R s m args below meth c nL D A cells slots Q ws lv pc st := by
  subst hn
  intro H locs ls hP hD hS hl
  exact lv_sipush C.1 C.2.1 hdg hv (k H locs ls hP hD hS hl)
theorem V.lconst (C : Cx p s m args meth c cc nL own D tys A) {z : Fin 2} {v : Int64} (hdg : decode cc pc = .ok (.lconst z, 1)) (hv : Int64.ofNat (z : Nat) = v) (hn : pc + 1 = n) (k : V p l e R s m args below meth c nL D A cells slots Q ws lv n (.long v :: st)) : V p l e R s m args below meth c nL D A cells slots Q ws lv pc st := by
  subst hn
  intro H locs ls hP hD hS hl
  exact lv_lconst C.1 C.2.1 hdg hv (k H locs ls hP hD hS hl)
theorem V.iload_n (C : Cx p s m args meth c cc nL own D tys A) {f : Fin 4} {i j : Nat} {x : Int32} (hdg : decode cc pc = .ok (.iload_n f, 1)) (hi : (f : Nat) = i) (hl : lv[j]? = some (i, .int x)) (hn : pc + 1 = n) (k : V p l e R s m args below meth c nL D A cells slots Q ws lv n (.int x :: st)) : V p l e R s m args below meth c nL D A cells slots Q ws lv pc st := by
  subst hn
  intro H locs ls hP hD hS hl0
  exact lv_iload_n C.1 C.2.1 hdg hi (lv_at hl0 j hl) (k H locs ls hP hD hS hl0)
theorem V.iload (C : Cx p s m args meth c cc nL own D tys A) {i j : Nat} {x : Int32} (hdg : decode cc pc = .ok (.iload i, 2)) (hl : lv[j]? = some (i, .int x)) (hn : pc + 2 = n) (k : V p l e R s m args below meth c nL D A cells slots Q ws lv n (.int x :: st)) : V p l e R s m args below meth c nL D A cells slots Q ws lv pc st := by
  subst hn
  intro H locs ls hP hD hS hl0
  exact lv_iload C.1 C.2.1 hdg (lv_at hl0 j hl) (k H locs ls hP hD hS hl0)
theorem V.lload_n (C : Cx p s m args meth c cc nL own D tys A) {f : Fin 4} {i j : Nat} {x : Int64} (hdg : decode cc pc = .ok (.lload_n f, 1)) (hi : (f : Nat) = i) (hl : lv[j]? = some (i, .long x)) (hn : pc + 1 = n) (k : V p l e R s m args below meth c nL D A cells slots Q ws lv n (.long x :: st)) : V p l e R s m args below meth c nL D A cells slots Q ws lv pc st := by
  subst hn
  intro H locs ls hP hD hS hl0
  exact lv_lload_n C.1 C.2.1 hdg hi (lv_at hl0 j hl) (k H locs ls hP hD hS hl0)
theorem V.lload (C : Cx p s m args meth c cc nL own D tys A) {i j : Nat} {x : Int64} (hdg : decode cc pc = .ok (.lload i, 2)) (hl : lv[j]? = some (i, .long x)) (hn : pc + 2 = n) (k : V p l e R s m args below meth c nL D A cells slots Q ws lv n (.long x :: st)) : V p l e R s m args below meth c nL D A cells slots Q ws lv pc st := by
  subst hn
  intro H locs ls hP hD hS hl0
  exact lv_lload C.1 C.2.1 hdg (lv_at hl0 j hl) (k H locs ls hP hD hS hl0)
theorem V.aload_n (C : Cx p s m args meth c cc nL own D tys A) {f : Fin 4} {i j : Nat} {x : Nat} (hdg : decode cc pc = .ok (.aload_n f, 1)) (hi : (f : Nat) = i) (hl : lv[j]? = some (i, .ref x)) (hn : pc + 1 = n) (k : V p l e R s m args below meth c nL D A cells slots Q ws lv n (.ref x :: st)) : V p l e R s m args below meth c nL D A cells slots Q ws lv pc st := by
  subst hn
  intro H locs ls hP hD hS hl0
  exact lv_aload_n C.1 C.2.1 hdg hi (lv_at hl0 j hl) (k H locs ls hP hD hS hl0)
theorem V.aload (C : Cx p s m args meth c cc nL own D tys A) {i j : Nat} {x : Nat} (hdg : decode cc pc = .ok (.aload i, 2)) (hl : lv[j]? = some (i, .ref x)) (hn : pc + 2 = n) (k : V p l e R s m args below meth c nL D A cells slots Q ws lv n (.ref x :: st)) : V p l e R s m args below meth c nL D A cells slots Q ws lv pc st := by
  subst hn
  intro H locs ls hP hD hS hl0
  exact lv_aload C.1 C.2.1 hdg (lv_at hl0 j hl) (k H locs ls hP hD hS hl0)
theorem V.istore_n (C : Cx p s m args meth c cc nL own D tys A) {f : Fin 4} {i : Nat} {x : Int32} (ks : List Nat) (hdg : decode cc pc = .ok (.istore_n f, 1)) (hi : (f : Nat) = i) (hL : i < nL) (hp : lv_pick ((i, .int x) :: lv.filter (fun q => !(q.1 == i) && !(q.1 + 1 == i && q.2.category == 2))) ks = lv') (hn : pc + 1 = n) (k : V p l e R s m args below meth c nL D A cells slots Q ws lv' n st) : V p l e R s m args below meth c nL D A cells slots Q ws lv pc (.int x :: st) := by
  subst hn
  intro H locs ls hP hD hS hl
  exact lv_istore_n C.1 C.2.1 hdg hi hl hL rfl (fun ls' hl' => k H locs ls' hP hD hS (lv_sub hl' ks hp))
theorem V.istore (C : Cx p s m args meth c cc nL own D tys A) {i : Nat} {x : Int32} (ks : List Nat) (hdg : decode cc pc = .ok (.istore i, 2)) (hL : i < nL) (hp : lv_pick ((i, .int x) :: lv.filter (fun q => !(q.1 == i) && !(q.1 + 1 == i && q.2.category == 2))) ks = lv') (hn : pc + 2 = n) (k : V p l e R s m args below meth c nL D A cells slots Q ws lv' n st) : V p l e R s m args below meth c nL D A cells slots Q ws lv pc (.int x :: st) := by
  subst hn
  intro H locs ls hP hD hS hl
  exact lv_istore C.1 C.2.1 hdg hl hL rfl (fun ls' hl' => k H locs ls' hP hD hS (lv_sub hl' ks hp))
theorem V.astore_n (C : Cx p s m args meth c cc nL own D tys A) {f : Fin 4} {i : Nat} {x : Nat} (ks : List Nat) (hdg : decode cc pc = .ok (.astore_n f, 1)) (hi : (f : Nat) = i) (hL : i < nL) (hp : lv_pick ((i, .ref x) :: lv.filter (fun q => !(q.1 == i) && !(q.1 + 1 == i && q.2.category == 2))) ks = lv') (hn : pc + 1 = n) (k : V p l e R s m args below meth c nL D A cells slots Q ws lv' n st) : V p l e R s m args below meth c nL D A cells slots Q ws lv pc (.ref x :: st) := by
  subst hn
  intro H locs ls hP hD hS hl
  exact lv_astore_n C.1 C.2.1 hdg hi hl hL rfl (fun ls' hl' => k H locs ls' hP hD hS (lv_sub hl' ks hp))
theorem V.astore (C : Cx p s m args meth c cc nL own D tys A) {i : Nat} {x : Nat} (ks : List Nat) (hdg : decode cc pc = .ok (.astore i, 2)) (hL : i < nL) (hp : lv_pick ((i, .ref x) :: lv.filter (fun q => !(q.1 == i) && !(q.1 + 1 == i && q.2.category == 2))) ks = lv') (hn : pc + 2 = n) (k : V p l e R s m args below meth c nL D A cells slots Q ws lv' n st) : V p l e R s m args below meth c nL D A cells slots Q ws lv pc (.ref x :: st) := by
  subst hn
  intro H locs ls hP hD hS hl
  exact lv_astore C.1 C.2.1 hdg hl hL rfl (fun ls' hl' => k H locs ls' hP hD hS (lv_sub hl' ks hp))
theorem V.lstore_n (C : Cx p s m args meth c cc nL own D tys A) {f : Fin 4} {i : Nat} {x : Int64} (ks : List Nat) (hdg : decode cc pc = .ok (.lstore_n f, 1)) (hi : (f : Nat) = i) (hL : i + 1 < nL) (hp : lv_pick ((i, .long x) :: lv.filter (fun q => !(q.1 == i) && (!(q.1 == i + 1) && !(q.1 + 1 == i && q.2.category == 2)))) ks = lv') (hn : pc + 1 = n) (k : V p l e R s m args below meth c nL D A cells slots Q ws lv' n st) : V p l e R s m args below meth c nL D A cells slots Q ws lv pc (.long x :: st) := by
  subst hn
  intro H locs ls hP hD hS hl
  exact lv_lstore_n C.1 C.2.1 hdg hi hl hL rfl (fun ls' hl' => k H locs ls' hP hD hS (lv_sub hl' ks hp))
theorem V.lstore (C : Cx p s m args meth c cc nL own D tys A) {i : Nat} {x : Int64} (ks : List Nat) (hdg : decode cc pc = .ok (.lstore i, 2)) (hL : i + 1 < nL) (hp : lv_pick ((i, .long x) :: lv.filter (fun q => !(q.1 == i) && (!(q.1 == i + 1) && !(q.1 + 1 == i && q.2.category == 2)))) ks = lv') (hn : pc + 2 = n) (k : V p l e R s m args below meth c nL D A cells slots Q ws lv' n st) : V p l e R s m args below meth c nL D A cells slots Q ws lv pc (.long x :: st) := by
  subst hn
  intro H locs ls hP hD hS hl
  exact lv_lstore C.1 C.2.1 hdg hl hL rfl (fun ls' hl' => k H locs ls' hP hD hS (lv_sub hl' ks hp))
theorem V.iinc (C : Cx p s m args meth c cc nL own D tys A) {i j : Nat} {z : Int} {x v : Int32} (ks : List Nat) (hdg : decode cc pc = .ok (.iinc i z, 3)) (hj : lv[j]? = some (i, .int x)) (hv : x + Int32.ofInt z = v) (hL : i < nL) (hp : lv_pick ((i, .int v) :: lv.filter (fun q => !(q.1 == i) && !(q.1 + 1 == i && q.2.category == 2))) ks = lv') (hn : pc + 3 = n) (k : V p l e R s m args below meth c nL D A cells slots Q ws lv' n st) : V p l e R s m args below meth c nL D A cells slots Q ws lv pc st := by
  subst hn
  intro H locs ls hP hD hS hl
  exact lv_iinc C.1 C.2.1 hdg hl hj hv hL rfl (fun ls' hl' => k H locs ls' hP hD hS (lv_sub hl' ks hp))
theorem V.dup (C : Cx p s m args meth c cc nL own D tys A) {v : Value} (hdg : decode cc pc = .ok (.dup, 1)) (hv : v.category = 1) (hn : pc + 1 = n) (k : V p l e R s m args below meth c nL D A cells slots Q ws lv n (v :: v :: st)) : V p l e R s m args below meth c nL D A cells slots Q ws lv pc (v :: st) := by
  subst hn
  intro H locs ls hP hD hS hl
  exact lv_dup C.1 C.2.1 hdg hv (k H locs ls hP hD hS hl)
theorem V.pop (C : Cx p s m args meth c cc nL own D tys A) {v : Value} (hdg : decode cc pc = .ok (.pop, 1)) (hv : v.category = 1) (hn : pc + 1 = n) (k : V p l e R s m args below meth c nL D A cells slots Q ws lv n st) : V p l e R s m args below meth c nL D A cells slots Q ws lv pc (v :: st) := by
  subst hn
  intro H locs ls hP hD hS hl
  exact lv_pop C.1 C.2.1 hdg hv (k H locs ls hP hD hS hl)
theorem V.dup2 (C : Cx p s m args meth c cc nL own D tys A) {v w : Value} (hdg : decode cc pc = .ok (.dup2, 1)) (hv : v.category = 1) (hw : w.category = 1) (hn : pc + 1 = n) (k : V p l e R s m args below meth c nL D A cells slots Q ws lv n (v :: w :: v :: w :: st)) : V p l e R s m args below meth c nL D A cells slots Q ws lv pc (v :: w :: st) := by
  subst hn
  intro H locs ls hP hD hS hl
  exact lv_dup2_11 C.1 C.2.1 hdg hv hw (k H locs ls hP hD hS hl)
theorem V.iadd_n (C : Cx p s m args meth c cc nL own D tys A) {a b : Nat} (hdg : decode cc pc = .ok (.iadd, 1)) (hn : pc + 1 = n) (k : V p l e R s m args below meth c nL D A cells slots Q ws lv n (.int (nI (a + b)) :: st)) : V p l e R s m args below meth c nL D A cells slots Q ws lv pc (.int (nI b) :: .int (nI a) :: st) := by
  subst hn
  intro H locs ls hP hD hS hl
  refine lv_iadd C.1 C.2.1 hdg ?_
  rw [show nI a + nI b = nI (a + b) from nI_add a b]
  exact k H locs ls hP hD hS hl
theorem V.isub_n (C : Cx p s m args meth c cc nL own D tys A) {a b : Nat} (hdg : decode cc pc = .ok (.isub, 1)) (h : b ≤ a) (hn : pc + 1 = n) (k : V p l e R s m args below meth c nL D A cells slots Q ws lv n (.int (nI (a - b)) :: st)) : V p l e R s m args below meth c nL D A cells slots Q ws lv pc (.int (nI b) :: .int (nI a) :: st) := by
  subst hn
  intro H locs ls hP hD hS hl
  refine lv_isub C.1 C.2.1 hdg ?_
  rw [show nI a - nI b = nI (a - b) from pk_sub h]
  exact k H locs ls hP hD hS hl
theorem V.imul_n (C : Cx p s m args meth c cc nL own D tys A) {a b : Nat} (hdg : decode cc pc = .ok (.imul, 1)) (hn : pc + 1 = n) (k : V p l e R s m args below meth c nL D A cells slots Q ws lv n (.int (nI (a * b)) :: st)) : V p l e R s m args below meth c nL D A cells slots Q ws lv pc (.int (nI b) :: .int (nI a) :: st) := by
  subst hn
  intro H locs ls hP hD hS hl
  refine lv_imul C.1 C.2.1 hdg ?_
  rw [show nI a * nI b = nI (a * b) from pk_mul a b]
  exact k H locs ls hP hD hS hl
theorem V.idiv_n (C : Cx p s m args meth c cc nL own D tys A) {a b : Nat} (hdg : decode cc pc = .ok (.idiv, 1)) (ha : a < 2147483648) (h0 : 0 < b) (hb : b < 2147483648) (hn : pc + 1 = n) (k : V p l e R s m args below meth c nL D A cells slots Q ws lv n (.int (nI (a / b)) :: st)) : V p l e R s m args below meth c nL D A cells slots Q ws lv pc (.int (nI b) :: .int (nI a) :: st) := by
  subst hn
  intro H locs ls hP hD hS hl
  refine lv_idiv C.1 C.2.1 hdg (nI_ne0 h0 (by simpa using hb)) ?_
  rw [show nI a / nI b = nI (a / b) from pk_div (by simpa using ha) h0 (by simpa using hb)]
  exact k H locs ls hP hD hS hl
theorem V.irem_n (C : Cx p s m args meth c cc nL own D tys A) {a b : Nat} (hdg : decode cc pc = .ok (.irem, 1)) (ha : a < 2147483648) (h0 : 0 < b) (hb : b < 2147483648) (hn : pc + 1 = n) (k : V p l e R s m args below meth c nL D A cells slots Q ws lv n (.int (nI (a % b)) :: st)) : V p l e R s m args below meth c nL D A cells slots Q ws lv pc (.int (nI b) :: .int (nI a) :: st) := by
  subst hn
  intro H locs ls hP hD hS hl
  refine lv_irem C.1 C.2.1 hdg (nI_ne0 h0 (by simpa using hb)) ?_
  rw [show nI a - nI a / nI b * nI b = nI (a % b) from pk_rem (by simpa using ha) h0 (by simpa using hb)]
  exact k H locs ls hP hD hS hl
theorem V.iadd_z (C : Cx p s m args meth c cc nL own D tys A) {X Y : Int} {x y : Int32} (hdg : decode cc pc = .ok (.iadd, 1)) (ex : x = iI X) (ey : y = iI Y) (hn : pc + 1 = n) (k : V p l e R s m args below meth c nL D A cells slots Q ws lv n (.int (iI (X + Y)) :: st)) : V p l e R s m args below meth c nL D A cells slots Q ws lv pc (.int y :: .int x :: st) := by
  subst hn
  subst ex
  subst ey
  intro H locs ls hP hD hS hl
  refine lv_iadd C.1 C.2.1 hdg ?_
  rw [iI_add]
  exact k H locs ls hP hD hS hl
theorem V.isub_z (C : Cx p s m args meth c cc nL own D tys A) {X Y : Int} {x y : Int32} (hdg : decode cc pc = .ok (.isub, 1)) (ex : x = iI X) (ey : y = iI Y) (hn : pc + 1 = n) (k : V p l e R s m args below meth c nL D A cells slots Q ws lv n (.int (iI (X - Y)) :: st)) : V p l e R s m args below meth c nL D A cells slots Q ws lv pc (.int y :: .int x :: st) := by
  subst hn
  subst ex
  subst ey
  intro H locs ls hP hD hS hl
  refine lv_isub C.1 C.2.1 hdg ?_
  rw [iI_sub]
  exact k H locs ls hP hD hS hl
theorem V.imul_z (C : Cx p s m args meth c cc nL own D tys A) {X Y : Int} {x y : Int32} (hdg : decode cc pc = .ok (.imul, 1)) (ex : x = iI X) (ey : y = iI Y) (hn : pc + 1 = n) (k : V p l e R s m args below meth c nL D A cells slots Q ws lv n (.int (iI (X * Y)) :: st)) : V p l e R s m args below meth c nL D A cells slots Q ws lv pc (.int y :: .int x :: st) := by
  subst hn
  subst ex
  subst ey
  intro H locs ls hP hD hS hl
  refine lv_imul C.1 C.2.1 hdg ?_
  rw [iI_mul]
  exact k H locs ls hP hD hS hl
theorem V.ineg_z (C : Cx p s m args meth c cc nL own D tys A) {X : Int} {x : Int32} (hdg : decode cc pc = .ok (.ineg, 1)) (ex : x = iI X) (hn : pc + 1 = n) (k : V p l e R s m args below meth c nL D A cells slots Q ws lv n (.int (iI (-X)) :: st)) : V p l e R s m args below meth c nL D A cells slots Q ws lv pc (.int x :: st) := by
  subst hn
  subst ex
  intro H locs ls hP hD hS hl
  refine lv_ineg C.1 C.2.1 hdg ?_
  rw [iI_neg]
  exact k H locs ls hP hD hS hl
theorem V.iadd_r (C : Cx p s m args meth c cc nL own D tys A) {x y v : Int32} (hdg : decode cc pc = .ok (.iadd, 1)) (hv : x + y = v) (hn : pc + 1 = n) (k : V p l e R s m args below meth c nL D A cells slots Q ws lv n (.int v :: st)) : V p l e R s m args below meth c nL D A cells slots Q ws lv pc (.int y :: .int x :: st) := by
  subst hn
  subst hv
  intro H locs ls hP hD hS hl
  exact lv_iadd C.1 C.2.1 hdg (k H locs ls hP hD hS hl)
theorem V.isub_r (C : Cx p s m args meth c cc nL own D tys A) {x y v : Int32} (hdg : decode cc pc = .ok (.isub, 1)) (hv : x - y = v) (hn : pc + 1 = n) (k : V p l e R s m args below meth c nL D A cells slots Q ws lv n (.int v :: st)) : V p l e R s m args below meth c nL D A cells slots Q ws lv pc (.int y :: .int x :: st) := by
  subst hn
  subst hv
  intro H locs ls hP hD hS hl
  exact lv_isub C.1 C.2.1 hdg (k H locs ls hP hD hS hl)
theorem V.iand_r (C : Cx p s m args meth c cc nL own D tys A) {x y v : Int32} (hdg : decode cc pc = .ok (.iand, 1)) (hv : x &&& y = v) (hn : pc + 1 = n) (k : V p l e R s m args below meth c nL D A cells slots Q ws lv n (.int v :: st)) : V p l e R s m args below meth c nL D A cells slots Q ws lv pc (.int y :: .int x :: st) := by
  subst hn
  subst hv
  intro H locs ls hP hD hS hl
  exact lv_iand C.1 C.2.1 hdg (k H locs ls hP hD hS hl)
theorem V.iushr_r (C : Cx p s m args meth c cc nL own D tys A) {x y v : Int32} (hdg : decode cc pc = .ok (.iushr, 1)) (hv : (x.toUInt32 >>> (y.toUInt32 &&& Int32.toUInt32 31)).toInt32 = v) (hn : pc + 1 = n) (k : V p l e R s m args below meth c nL D A cells slots Q ws lv n (.int v :: st)) : V p l e R s m args below meth c nL D A cells slots Q ws lv pc (.int y :: .int x :: st) := by
  subst hn
  subst hv
  intro H locs ls hP hD hS hl
  exact lv_iushr C.1 C.2.1 hdg rfl (k H locs ls hP hD hS hl)
theorem V.i2c_r (C : Cx p s m args meth c cc nL own D tys A) {x v : Int32} (hdg : decode cc pc = .ok (.i2c, 1)) (hv : (x.toUInt32 % 65536).toInt32 = v) (hn : pc + 1 = n) (k : V p l e R s m args below meth c nL D A cells slots Q ws lv n (.int v :: st)) : V p l e R s m args below meth c nL D A cells slots Q ws lv pc (.int x :: st) := by
  subst hn
  subst hv
  intro H locs ls hP hD hS hl
  exact lv_i2c C.1 C.2.1 hdg rfl (k H locs ls hP hD hS hl)
theorem V.i2c_n (C : Cx p s m args meth c cc nL own D tys A) {a : Nat} (h : a < 65536) (hdg : decode cc pc = .ok (.i2c, 1)) (hn : pc + 1 = n) (k : V p l e R s m args below meth c nL D A cells slots Q ws lv n (.int (nI a) :: st)) : V p l e R s m args below meth c nL D A cells slots Q ws lv pc (.int (nI a) :: st) := by
  exact V.i2c_r C hdg (by rw [pk_char, pk_tn (by omega), Nat.mod_eq_of_lt h]) hn k
theorem V.join (C : Cx p s m args meth c cc nL own D tys A) {lv9 : List (Nat × Value)} {ws9 : va_W} {n9 : Nat} {st9 : List Value} (k : V p l e R s m args below meth c nL D A cells slots Q ws9 lv9 n9 st9) (f : V p l e R s m args below meth c nL D A cells slots Q ws9 lv9 n9 st9 → V p l e R s m args below meth c nL D A cells slots Q ws lv pc st) : V p l e R s m args below meth c nL D A cells slots Q ws lv pc st := by
  exact f k
theorem V.lcmp (C : Cx p s m args meth c cc nL own D tys A) {x y : Int64} (hdg : decode cc pc = .ok (.lcmp, 1)) (hn : pc + 1 = n) (k : V p l e R s m args below meth c nL D A cells slots Q ws lv n (.int (lg_cmp x y) :: st)) : V p l e R s m args below meth c nL D A cells slots Q ws lv pc (.long y :: .long x :: st) := by
  subst hn
  intro H locs ls hP hD hS hl
  exact W.lcmp C.1 C.2.1 hdg (k H locs ls hP hD hS hl)
theorem V.ladd (C : Cx p s m args meth c cc nL own D tys A) {x y v : Int64} (hdg : decode cc pc = .ok (.ladd, 1)) (hv : x + y = v) (hn : pc + 1 = n) (k : V p l e R s m args below meth c nL D A cells slots Q ws lv n (.long v :: st)) : V p l e R s m args below meth c nL D A cells slots Q ws lv pc (.long y :: .long x :: st) := by
  subst hn
  subst hv
  intro H locs ls hP hD hS hl
  exact lv_ladd C.1 C.2.1 hdg (k H locs ls hP hD hS hl)
theorem V.ldcS (C : Cx p s m args meth c cc nL own D tys A) {tx : String} {idx i0 : Nat} (hw : (own, idx, tx, i0) ∈ sRf) (hdg : decode cc pc = .ok (.ldc idx, 2)) (hn : pc + 2 = n) (k : V p l e R s m args below meth c nL D A cells slots Q ws lv n (.ref (tys.2 i0) :: st)) : V p l e R s m args below meth c nL D A cells slots Q ws lv pc st := by
  subst hn
  intro H locs ls hP hD hS hl
  exact va_ldcS C.1 C.2.1 C.2.2.2.1 (C.2.2.2.2.2.2.2.2.2.1 _ hw) hdg (k H locs ls hP hD hS hl)
theorem strRecv (C : Cx p s m args meth c cc nL own D tys A) {i : Nat} (hi : i < nSt) : ∀ (H : Heap) (locs : List Loc), va_S A s.heap H locs → ∃ cell : Cell, H[tys.2 i]? = some cell ∧ cell.vm.isStatics = false ∧ s.vm.findClass "java/lang/String" = some cell.cls := fun H locs hS => vk_recv C.2.2.2.2.2.2.2.2.2.2.1 hi hS
theorem V.getCS (C : Cx p s m args meth c cc nL own D tys A) {idx : Nat} (hw : .fieldLink own idx "java/lang/String" "COMPACT_STRINGS" "Z" ∈ wT) (hdg : decode cc pc = .ok (.getstatic idx, 3)) (hn : pc + 3 = n) (k : V p l e R s m args below meth c nL D A cells slots Q ws lv n (.int (nI 1) :: st)) : V p l e R s m args below meth c nL D A cells slots Q ws lv pc st := by
  subst hn
  intro H locs ls hP hD hS hl
  exact va_gets C.1 C.2.1 C.2.2.2.2.2.2.2.2.2.2.2.1 hS C.2.2.2.1 (C.2.2.2.2.1 _ hw) (fun _ h => h) hdg (k H locs ls hP hD hS hl)
theorem V.getSF (C : Cx p s m args meth c cc nL own D tys A) {idx : Nat} (hw : .fieldLink own idx "jdk/internal/util/Preconditions" "SIOOBE_FORMATTER" "Ljava/util/function/BiFunction;" ∈ wT) (hdg : decode cc pc = .ok (.getstatic idx, 3)) (hn : pc + 3 = n) (k : ∀ v : Value, (v = .null ∨ ∃ a : Nat, v = .ref a) → V p l e R s m args below meth c nL D A cells slots Q ws lv n (v :: st)) : V p l e R s m args below meth c nL D A cells slots Q ws lv pc st := by
  subst hn
  obtain ⟨v, h1, h2⟩ := C.2.2.2.2.2.2.2.2.2.2.2.2
  intro H locs ls hP hD hS hl
  exact va_gets C.1 C.2.1 h2 hS C.2.2.2.1 (C.2.2.2.2.1 _ hw) (fun _ h => h) hdg (k v h1 H locs ls hP hD hS hl)
theorem V.getKc (C : Cx p s m args meth c cc nL own D tys A) {idx i : Nat} (hi : i < nSt) (hw : .fieldLink own idx "java/lang/String" "coder" "B" ∈ wT) (hdg : decode cc pc = .ok (.getfield idx, 3)) (hn : pc + 3 = n) (k : V p l e R s m args below meth c nL D A cells slots Q ws lv n (.int (nI 0) :: st)) : V p l e R s m args below meth c nL D A cells slots Q ws lv pc (.ref (tys.2 i) :: st) := by
  subst hn
  intro H locs ls hP hD hS hl
  exact vk_getf C.1 C.2.1 (C.2.2.2.2.2.2.2.2.2.2.1.1 i hi).2.1 hS C.2.2.2.1 (C.2.2.2.2.1 _ hw) (fun _ h => h) hdg (k H locs ls hP hD hS hl)
theorem V.getKv (C : Cx p s m args meth c cc nL own D tys A) {idx i : Nat} (hi : i < nSt) (hw : .fieldLink own idx "java/lang/String" "value" "[B" ∈ wT) (hdg : decode cc pc = .ok (.getfield idx, 3)) (hn : pc + 3 = n) (k : V p l e R s m args below meth c nL D A cells slots Q ws lv n (.ref (tys.2 (i + nSt)) :: st)) : V p l e R s m args below meth c nL D A cells slots Q ws lv pc (.ref (tys.2 i) :: st) := by
  subst hn
  intro H locs ls hP hD hS hl
  exact vk_getf C.1 C.2.1 (C.2.2.2.2.2.2.2.2.2.2.1.1 i hi).2.2.1 hS C.2.2.2.1 (C.2.2.2.2.1 _ hw) (fun _ h => h) hdg (k H locs ls hP hD hS hl)
theorem V.tlen (C : Cx p s m args meth c cc nL own D tys A) {i : Nat} (hi : i < nSt) (hdg : decode cc pc = .ok (.arraylength, 1)) (hn : pc + 1 = n) (k : V p l e R s m args below meth c nL D A cells slots Q ws lv n (.int (nI (sln i)) :: st)) : V p l e R s m args below meth c nL D A cells slots Q ws lv pc (.ref (tys.2 (i + nSt)) :: st) := by
  subst hn
  intro H locs ls hP hD hS hl
  exact va_tlen C.1 C.2.1 (C.2.2.2.2.2.2.2.2.2.2.1.1 i hi).2.2.2 hS rfl hdg (k H locs ls hP hD hS hl)
theorem V.tb (C : Cx p s m args meth c cc nL own D tys A) {i j : Nat} (hi : i < nSt) (hj : j < sln i) (hdg : decode cc pc = .ok (.baload, 1)) (hn : pc + 1 = n) (k : V p l e R s m args below meth c nL D A cells slots Q ws lv n (.int ((sByt.getD i []).getD j 0) :: st)) : V p l e R s m args below meth c nL D A cells slots Q ws lv pc (.int (nI j) :: .ref (tys.2 (i + nSt)) :: st) := by
  subst hn
  intro H locs ls hP hD hS hl
  exact va_tb C.1 C.2.1 (C.2.2.2.2.2.2.2.2.2.2.1.1 i hi).2.2.2 hS (vp_in_nI hj (Nat.lt_of_le_of_lt (sln_le i) (by decide))) (by rw [nI_clamp (Nat.lt_trans hj (Nat.lt_of_le_of_lt (sln_le i) (by decide)))]) hdg (k H locs ls hP hD hS hl)
theorem V.ishr_r (C : Cx p s m args meth c cc nL own D tys A) {x y v : Int32} (hdg : decode cc pc = .ok (.ishr, 1)) (hv : x >>> (y &&& 31) = v) (hn : pc + 1 = n) (k : V p l e R s m args below meth c nL D A cells slots Q ws lv n (.int v :: st)) : V p l e R s m args below meth c nL D A cells slots Q ws lv pc (.int y :: .int x :: st) := by
  subst hn
  subst hv
  intro H locs ls hP hD hS hl
  exact lv_ishr C.1 C.2.1 hdg (k H locs ls hP hD hS hl)
theorem V.ldc2 (C : Cx p s m args meth c cc nL own D tys A) {v : Int64} {idx : Nat} (hw : .constantLong own idx v ∈ wT) (hdg : decode cc pc = .ok (.ldc2_w idx, 3)) (hn : pc + 3 = n) (k : V p l e R s m args below meth c nL D A cells slots Q ws lv n (.long v :: st)) : V p l e R s m args below meth c nL D A cells slots Q ws lv pc st := by
  subst hn
  intro H locs ls hP hD hS hl
  exact lv_ldc2 C.1 C.2.1 C.2.2.2.1 (C.2.2.2.2.1 _ hw) hdg (k H locs ls hP hD hS hl)
theorem V.ifl_lt (C : Cx p s m args meth c cc nL own D tys A) {X Y : Int} {x y : Int64} {off : Int} {tgt : Nat} (ex : x.toInt = X) (ey : y.toInt = Y) (hdg : decode cc pc = .ok (.ifCond .lt off, 3)) (ht : (pc : Int) + off = (tgt : Int)) (hn : pc + 3 = n) (kt : X < Y → V p l e R s m args below meth c nL D A cells slots Q ws lv tgt st) (kf : Y ≤ X → V p l e R s m args below meth c nL D A cells slots Q ws lv n st) : V p l e R s m args below meth c nL D A cells slots Q ws lv pc (.int (lg_cmp x y) :: st) := by
  subst hn
  intro H locs ls hP hD hS hl
  have h9 : X < Y ↔ lg_cmp x y < 0 := by rw [← ex, ← ey]; exact (Int64.lt_iff_toInt_lt.symm.trans (lg_cmp_lt x y).symm)
  exact lv_if_lt C.1 C.2.1 hdg ht (fun c9 => kt (h9.mpr c9) H locs ls hP hD hS hl) (fun c9 => kf (Int.not_lt.mp (fun q => c9 (h9.mp q))) H locs ls hP hD hS hl)
theorem V.ifl_ge (C : Cx p s m args meth c cc nL own D tys A) {X Y : Int} {x y : Int64} {off : Int} {tgt : Nat} (ex : x.toInt = X) (ey : y.toInt = Y) (hdg : decode cc pc = .ok (.ifCond .ge off, 3)) (ht : (pc : Int) + off = (tgt : Int)) (hn : pc + 3 = n) (kt : Y ≤ X → V p l e R s m args below meth c nL D A cells slots Q ws lv tgt st) (kf : X < Y → V p l e R s m args below meth c nL D A cells slots Q ws lv n st) : V p l e R s m args below meth c nL D A cells slots Q ws lv pc (.int (lg_cmp x y) :: st) := by
  subst hn
  intro H locs ls hP hD hS hl
  have h9 : Y ≤ X ↔ 0 ≤ lg_cmp x y := by rw [← ex, ← ey]; exact (Int64.le_iff_toInt_le.symm.trans (lg_cmp_ge x y).symm)
  exact lv_if_ge C.1 C.2.1 hdg ht (fun c9 => kt (h9.mpr c9) H locs ls hP hD hS hl) (fun c9 => kf (Int.not_le.mp (fun q => c9 (h9.mp q))) H locs ls hP hD hS hl)
theorem V.ifl_gt (C : Cx p s m args meth c cc nL own D tys A) {X Y : Int} {x y : Int64} {off : Int} {tgt : Nat} (ex : x.toInt = X) (ey : y.toInt = Y) (hdg : decode cc pc = .ok (.ifCond .gt off, 3)) (ht : (pc : Int) + off = (tgt : Int)) (hn : pc + 3 = n) (kt : Y < X → V p l e R s m args below meth c nL D A cells slots Q ws lv tgt st) (kf : X ≤ Y → V p l e R s m args below meth c nL D A cells slots Q ws lv n st) : V p l e R s m args below meth c nL D A cells slots Q ws lv pc (.int (lg_cmp x y) :: st) := by
  subst hn
  intro H locs ls hP hD hS hl
  have h9 : Y < X ↔ 0 < lg_cmp x y := by rw [← ex, ← ey]; exact (Int64.lt_iff_toInt_lt.symm.trans (lg_cmp_gt x y).symm)
  exact lv_if_gt C.1 C.2.1 hdg ht (fun c9 => kt (h9.mpr c9) H locs ls hP hD hS hl) (fun c9 => kf (Int.not_lt.mp (fun q => c9 (h9.mp q))) H locs ls hP hD hS hl)
theorem V.ifl_le (C : Cx p s m args meth c cc nL own D tys A) {X Y : Int} {x y : Int64} {off : Int} {tgt : Nat} (ex : x.toInt = X) (ey : y.toInt = Y) (hdg : decode cc pc = .ok (.ifCond .le off, 3)) (ht : (pc : Int) + off = (tgt : Int)) (hn : pc + 3 = n) (kt : X ≤ Y → V p l e R s m args below meth c nL D A cells slots Q ws lv tgt st) (kf : Y < X → V p l e R s m args below meth c nL D A cells slots Q ws lv n st) : V p l e R s m args below meth c nL D A cells slots Q ws lv pc (.int (lg_cmp x y) :: st) := by
  subst hn
  intro H locs ls hP hD hS hl
  have h9 : X ≤ Y ↔ lg_cmp x y ≤ 0 := by rw [← ex, ← ey]; exact (Int64.le_iff_toInt_le.symm.trans (lg_cmp_le x y).symm)
  exact lv_if_le C.1 C.2.1 hdg ht (fun c9 => kt (h9.mpr c9) H locs ls hP hD hS hl) (fun c9 => kf (Int.not_le.mp (fun q => c9 (h9.mp q))) H locs ls hP hD hS hl)
theorem V.cv (C : Cx p s m args meth c cc nL own D tys A) {x y : Int32} (h : x = y) (k : V p l e R s m args below meth c nL D A cells slots Q ws lv pc (.int y :: st)) : V p l e R s m args below meth c nL D A cells slots Q ws lv pc (.int x :: st) := by
  subst h
  exact k
theorem V.stk (C : Cx p s m args meth c cc nL own D tys A) {st' : List Value} (h : st = st') (k : V p l e R s m args below meth c nL D A cells slots Q ws lv pc st') : V p l e R s m args below meth c nL D A cells slots Q ws lv pc st := by
  subst h
  exact k
theorem V.wo (C : Cx p s m args meth c cc nL own D tys A) (h : ws = ws') (k : V p l e R s m args below meth c nL D A cells slots Q ws' lv pc st) : V p l e R s m args below meth c nL D A cells slots Q ws lv pc st := by
  subst h
  exact k
theorem V.lsub (C : Cx p s m args meth c cc nL own D tys A) (ks : List Nat) (h : lv_pick lv ks = lv') (k : V p l e R s m args below meth c nL D A cells slots Q ws lv' pc st) : V p l e R s m args below meth c nL D A cells slots Q ws lv pc st := by
  intro H locs ls hP hD hS hl
  exact k H locs ls hP hD hS (lv_sub hl ks h)
theorem V.ind1 (C : Cx p s m args meth c cc nL own D tys A) {A1 : Type} (Wf : A1 → va_W) (Lf : A1 → List (Nat × Value)) (I : A1 → Prop) (μ : A1 → Nat) (z1 : A1) (h0 : I z1) (hw : ws = Wf z1) (hl : lv = Lf z1) (step : ∀ (x1 : A1), I x1 → (∀ (y1 : A1), I y1 → μ y1 < μ x1 → V p l e R s m args below meth c nL D A cells slots Q (Wf y1) (Lf y1) pc st) → V p l e R s m args below meth c nL D A cells slots Q (Wf x1) (Lf x1) pc st) : V p l e R s m args below meth c nL D A cells slots Q ws lv pc st := by
  subst hw
  subst hl
  have key : ∀ (k : Nat) (x1 : A1), μ x1 < k → I x1 → V p l e R s m args below meth c nL D A cells slots Q (Wf x1) (Lf x1) pc st := by
    intro k
    induction k with
    | zero => intro x1 h _; exact absurd h (Nat.not_lt_zero _)
    | succ k ih => intro x1 h hI; exact step x1 hI (fun y1 hJ hm => ih y1 (Nat.lt_of_lt_of_le hm (Nat.le_of_lt_succ h)) hJ)
  exact key (μ z1 + 1) z1 (Nat.lt_succ_self _) h0
theorem V.ind2 (C : Cx p s m args meth c cc nL own D tys A) {A1 A2 : Type} (Wf : A1 → A2 → va_W) (Lf : A1 → A2 → List (Nat × Value)) (I : A1 → A2 → Prop) (μ : A1 → A2 → Nat) (z1 : A1) (z2 : A2) (h0 : I z1 z2) (hw : ws = Wf z1 z2) (hl : lv = Lf z1 z2) (step : ∀ (x1 : A1) (x2 : A2), I x1 x2 → (∀ (y1 : A1) (y2 : A2), I y1 y2 → μ y1 y2 < μ x1 x2 → V p l e R s m args below meth c nL D A cells slots Q (Wf y1 y2) (Lf y1 y2) pc st) → V p l e R s m args below meth c nL D A cells slots Q (Wf x1 x2) (Lf x1 x2) pc st) : V p l e R s m args below meth c nL D A cells slots Q ws lv pc st := by
  subst hw
  subst hl
  have key : ∀ (k : Nat) (x1 : A1) (x2 : A2), μ x1 x2 < k → I x1 x2 → V p l e R s m args below meth c nL D A cells slots Q (Wf x1 x2) (Lf x1 x2) pc st := by
    intro k
    induction k with
    | zero => intro x1 x2 h _; exact absurd h (Nat.not_lt_zero _)
    | succ k ih => intro x1 x2 h hI; exact step x1 x2 hI (fun y1 y2 hJ hm => ih y1 y2 (Nat.lt_of_lt_of_le hm (Nat.le_of_lt_succ h)) hJ)
  exact key (μ z1 z2 + 1) z1 z2 (Nat.lt_succ_self _) h0
theorem V.ind3 (C : Cx p s m args meth c cc nL own D tys A) {A1 A2 A3 : Type} (Wf : A1 → A2 → A3 → va_W) (Lf : A1 → A2 → A3 → List (Nat × Value)) (I : A1 → A2 → A3 → Prop) (μ : A1 → A2 → A3 → Nat) (z1 : A1) (z2 : A2) (z3 : A3) (h0 : I z1 z2 z3) (hw : ws = Wf z1 z2 z3) (hl : lv = Lf z1 z2 z3) (step : ∀ (x1 : A1) (x2 : A2) (x3 : A3), I x1 x2 x3 → (∀ (y1 : A1) (y2 : A2) (y3 : A3), I y1 y2 y3 → μ y1 y2 y3 < μ x1 x2 x3 → V p l e R s m args below meth c nL D A cells slots Q (Wf y1 y2 y3) (Lf y1 y2 y3) pc st) → V p l e R s m args below meth c nL D A cells slots Q (Wf x1 x2 x3) (Lf x1 x2 x3) pc st) : V p l e R s m args below meth c nL D A cells slots Q ws lv pc st := by
  subst hw
  subst hl
  have key : ∀ (k : Nat) (x1 : A1) (x2 : A2) (x3 : A3), μ x1 x2 x3 < k → I x1 x2 x3 → V p l e R s m args below meth c nL D A cells slots Q (Wf x1 x2 x3) (Lf x1 x2 x3) pc st := by
    intro k
    induction k with
    | zero => intro x1 x2 x3 h _; exact absurd h (Nat.not_lt_zero _)
    | succ k ih => intro x1 x2 x3 h hI; exact step x1 x2 x3 hI (fun y1 y2 y3 hJ hm => ih y1 y2 y3 (Nat.lt_of_lt_of_le hm (Nat.le_of_lt_succ h)) hJ)
  exact key (μ z1 z2 z3 + 1) z1 z2 z3 (Nat.lt_succ_self _) h0
theorem V.ind4 (C : Cx p s m args meth c cc nL own D tys A) {A1 A2 A3 A4 : Type} (Wf : A1 → A2 → A3 → A4 → va_W) (Lf : A1 → A2 → A3 → A4 → List (Nat × Value)) (I : A1 → A2 → A3 → A4 → Prop) (μ : A1 → A2 → A3 → A4 → Nat) (z1 : A1) (z2 : A2) (z3 : A3) (z4 : A4) (h0 : I z1 z2 z3 z4) (hw : ws = Wf z1 z2 z3 z4) (hl : lv = Lf z1 z2 z3 z4) (step : ∀ (x1 : A1) (x2 : A2) (x3 : A3) (x4 : A4), I x1 x2 x3 x4 → (∀ (y1 : A1) (y2 : A2) (y3 : A3) (y4 : A4), I y1 y2 y3 y4 → μ y1 y2 y3 y4 < μ x1 x2 x3 x4 → V p l e R s m args below meth c nL D A cells slots Q (Wf y1 y2 y3 y4) (Lf y1 y2 y3 y4) pc st) → V p l e R s m args below meth c nL D A cells slots Q (Wf x1 x2 x3 x4) (Lf x1 x2 x3 x4) pc st) : V p l e R s m args below meth c nL D A cells slots Q ws lv pc st := by
  subst hw
  subst hl
  have key : ∀ (k : Nat) (x1 : A1) (x2 : A2) (x3 : A3) (x4 : A4), μ x1 x2 x3 x4 < k → I x1 x2 x3 x4 → V p l e R s m args below meth c nL D A cells slots Q (Wf x1 x2 x3 x4) (Lf x1 x2 x3 x4) pc st := by
    intro k
    induction k with
    | zero => intro x1 x2 x3 x4 h _; exact absurd h (Nat.not_lt_zero _)
    | succ k ih => intro x1 x2 x3 x4 h hI; exact step x1 x2 x3 x4 hI (fun y1 y2 y3 y4 hJ hm => ih y1 y2 y3 y4 (Nat.lt_of_lt_of_le hm (Nat.le_of_lt_succ h)) hJ)
  exact key (μ z1 z2 z3 z4 + 1) z1 z2 z3 z4 (Nat.lt_succ_self _) h0
theorem V.ind5 (C : Cx p s m args meth c cc nL own D tys A) {A1 A2 A3 A4 A5 : Type} (Wf : A1 → A2 → A3 → A4 → A5 → va_W) (Lf : A1 → A2 → A3 → A4 → A5 → List (Nat × Value)) (I : A1 → A2 → A3 → A4 → A5 → Prop) (μ : A1 → A2 → A3 → A4 → A5 → Nat) (z1 : A1) (z2 : A2) (z3 : A3) (z4 : A4) (z5 : A5) (h0 : I z1 z2 z3 z4 z5) (hw : ws = Wf z1 z2 z3 z4 z5) (hl : lv = Lf z1 z2 z3 z4 z5) (step : ∀ (x1 : A1) (x2 : A2) (x3 : A3) (x4 : A4) (x5 : A5), I x1 x2 x3 x4 x5 → (∀ (y1 : A1) (y2 : A2) (y3 : A3) (y4 : A4) (y5 : A5), I y1 y2 y3 y4 y5 → μ y1 y2 y3 y4 y5 < μ x1 x2 x3 x4 x5 → V p l e R s m args below meth c nL D A cells slots Q (Wf y1 y2 y3 y4 y5) (Lf y1 y2 y3 y4 y5) pc st) → V p l e R s m args below meth c nL D A cells slots Q (Wf x1 x2 x3 x4 x5) (Lf x1 x2 x3 x4 x5) pc st) : V p l e R s m args below meth c nL D A cells slots Q ws lv pc st := by
  subst hw
  subst hl
  have key : ∀ (k : Nat) (x1 : A1) (x2 : A2) (x3 : A3) (x4 : A4) (x5 : A5), μ x1 x2 x3 x4 x5 < k → I x1 x2 x3 x4 x5 → V p l e R s m args below meth c nL D A cells slots Q (Wf x1 x2 x3 x4 x5) (Lf x1 x2 x3 x4 x5) pc st := by
    intro k
    induction k with
    | zero => intro x1 x2 x3 x4 x5 h _; exact absurd h (Nat.not_lt_zero _)
    | succ k ih => intro x1 x2 x3 x4 x5 h hI; exact step x1 x2 x3 x4 x5 hI (fun y1 y2 y3 y4 y5 hJ hm => ih y1 y2 y3 y4 y5 (Nat.lt_of_lt_of_le hm (Nat.le_of_lt_succ h)) hJ)
  exact key (μ z1 z2 z3 z4 z5 + 1) z1 z2 z3 z4 z5 (Nat.lt_succ_self _) h0
theorem V.ind6 (C : Cx p s m args meth c cc nL own D tys A) {A1 A2 A3 A4 A5 A6 : Type} (Wf : A1 → A2 → A3 → A4 → A5 → A6 → va_W) (Lf : A1 → A2 → A3 → A4 → A5 → A6 → List (Nat × Value)) (I : A1 → A2 → A3 → A4 → A5 → A6 → Prop) (μ : A1 → A2 → A3 → A4 → A5 → A6 → Nat) (z1 : A1) (z2 : A2) (z3 : A3) (z4 : A4) (z5 : A5) (z6 : A6) (h0 : I z1 z2 z3 z4 z5 z6) (hw : ws = Wf z1 z2 z3 z4 z5 z6) (hl : lv = Lf z1 z2 z3 z4 z5 z6) (step : ∀ (x1 : A1) (x2 : A2) (x3 : A3) (x4 : A4) (x5 : A5) (x6 : A6), I x1 x2 x3 x4 x5 x6 → (∀ (y1 : A1) (y2 : A2) (y3 : A3) (y4 : A4) (y5 : A5) (y6 : A6), I y1 y2 y3 y4 y5 y6 → μ y1 y2 y3 y4 y5 y6 < μ x1 x2 x3 x4 x5 x6 → V p l e R s m args below meth c nL D A cells slots Q (Wf y1 y2 y3 y4 y5 y6) (Lf y1 y2 y3 y4 y5 y6) pc st) → V p l e R s m args below meth c nL D A cells slots Q (Wf x1 x2 x3 x4 x5 x6) (Lf x1 x2 x3 x4 x5 x6) pc st) : V p l e R s m args below meth c nL D A cells slots Q ws lv pc st := by
  subst hw
  subst hl
  have key : ∀ (k : Nat) (x1 : A1) (x2 : A2) (x3 : A3) (x4 : A4) (x5 : A5) (x6 : A6), μ x1 x2 x3 x4 x5 x6 < k → I x1 x2 x3 x4 x5 x6 → V p l e R s m args below meth c nL D A cells slots Q (Wf x1 x2 x3 x4 x5 x6) (Lf x1 x2 x3 x4 x5 x6) pc st := by
    intro k
    induction k with
    | zero => intro x1 x2 x3 x4 x5 x6 h _; exact absurd h (Nat.not_lt_zero _)
    | succ k ih => intro x1 x2 x3 x4 x5 x6 h hI; exact step x1 x2 x3 x4 x5 x6 hI (fun y1 y2 y3 y4 y5 y6 hJ hm => ih y1 y2 y3 y4 y5 y6 (Nat.lt_of_lt_of_le hm (Nat.le_of_lt_succ h)) hJ)
  exact key (μ z1 z2 z3 z4 z5 z6 + 1) z1 z2 z3 z4 z5 z6 (Nat.lt_succ_self _) h0
theorem V.ind7 (C : Cx p s m args meth c cc nL own D tys A) {A1 A2 A3 A4 A5 A6 A7 : Type} (Wf : A1 → A2 → A3 → A4 → A5 → A6 → A7 → va_W) (Lf : A1 → A2 → A3 → A4 → A5 → A6 → A7 → List (Nat × Value)) (I : A1 → A2 → A3 → A4 → A5 → A6 → A7 → Prop) (μ : A1 → A2 → A3 → A4 → A5 → A6 → A7 → Nat) (z1 : A1) (z2 : A2) (z3 : A3) (z4 : A4) (z5 : A5) (z6 : A6) (z7 : A7) (h0 : I z1 z2 z3 z4 z5 z6 z7) (hw : ws = Wf z1 z2 z3 z4 z5 z6 z7) (hl : lv = Lf z1 z2 z3 z4 z5 z6 z7) (step : ∀ (x1 : A1) (x2 : A2) (x3 : A3) (x4 : A4) (x5 : A5) (x6 : A6) (x7 : A7), I x1 x2 x3 x4 x5 x6 x7 → (∀ (y1 : A1) (y2 : A2) (y3 : A3) (y4 : A4) (y5 : A5) (y6 : A6) (y7 : A7), I y1 y2 y3 y4 y5 y6 y7 → μ y1 y2 y3 y4 y5 y6 y7 < μ x1 x2 x3 x4 x5 x6 x7 → V p l e R s m args below meth c nL D A cells slots Q (Wf y1 y2 y3 y4 y5 y6 y7) (Lf y1 y2 y3 y4 y5 y6 y7) pc st) → V p l e R s m args below meth c nL D A cells slots Q (Wf x1 x2 x3 x4 x5 x6 x7) (Lf x1 x2 x3 x4 x5 x6 x7) pc st) : V p l e R s m args below meth c nL D A cells slots Q ws lv pc st := by
  subst hw
  subst hl
  have key : ∀ (k : Nat) (x1 : A1) (x2 : A2) (x3 : A3) (x4 : A4) (x5 : A5) (x6 : A6) (x7 : A7), μ x1 x2 x3 x4 x5 x6 x7 < k → I x1 x2 x3 x4 x5 x6 x7 → V p l e R s m args below meth c nL D A cells slots Q (Wf x1 x2 x3 x4 x5 x6 x7) (Lf x1 x2 x3 x4 x5 x6 x7) pc st := by
    intro k
    induction k with
    | zero => intro x1 x2 x3 x4 x5 x6 x7 h _; exact absurd h (Nat.not_lt_zero _)
    | succ k ih => intro x1 x2 x3 x4 x5 x6 x7 h hI; exact step x1 x2 x3 x4 x5 x6 x7 hI (fun y1 y2 y3 y4 y5 y6 y7 hJ hm => ih y1 y2 y3 y4 y5 y6 y7 (Nat.lt_of_lt_of_le hm (Nat.le_of_lt_succ h)) hJ)
  exact key (μ z1 z2 z3 z4 z5 z6 z7 + 1) z1 z2 z3 z4 z5 z6 z7 (Nat.lt_succ_self _) h0
theorem V.ind8 (C : Cx p s m args meth c cc nL own D tys A) {A1 A2 A3 A4 A5 A6 A7 A8 : Type} (Wf : A1 → A2 → A3 → A4 → A5 → A6 → A7 → A8 → va_W) (Lf : A1 → A2 → A3 → A4 → A5 → A6 → A7 → A8 → List (Nat × Value)) (I : A1 → A2 → A3 → A4 → A5 → A6 → A7 → A8 → Prop) (μ : A1 → A2 → A3 → A4 → A5 → A6 → A7 → A8 → Nat) (z1 : A1) (z2 : A2) (z3 : A3) (z4 : A4) (z5 : A5) (z6 : A6) (z7 : A7) (z8 : A8) (h0 : I z1 z2 z3 z4 z5 z6 z7 z8) (hw : ws = Wf z1 z2 z3 z4 z5 z6 z7 z8) (hl : lv = Lf z1 z2 z3 z4 z5 z6 z7 z8) (step : ∀ (x1 : A1) (x2 : A2) (x3 : A3) (x4 : A4) (x5 : A5) (x6 : A6) (x7 : A7) (x8 : A8), I x1 x2 x3 x4 x5 x6 x7 x8 → (∀ (y1 : A1) (y2 : A2) (y3 : A3) (y4 : A4) (y5 : A5) (y6 : A6) (y7 : A7) (y8 : A8), I y1 y2 y3 y4 y5 y6 y7 y8 → μ y1 y2 y3 y4 y5 y6 y7 y8 < μ x1 x2 x3 x4 x5 x6 x7 x8 → V p l e R s m args below meth c nL D A cells slots Q (Wf y1 y2 y3 y4 y5 y6 y7 y8) (Lf y1 y2 y3 y4 y5 y6 y7 y8) pc st) → V p l e R s m args below meth c nL D A cells slots Q (Wf x1 x2 x3 x4 x5 x6 x7 x8) (Lf x1 x2 x3 x4 x5 x6 x7 x8) pc st) : V p l e R s m args below meth c nL D A cells slots Q ws lv pc st := by
  subst hw
  subst hl
  have key : ∀ (k : Nat) (x1 : A1) (x2 : A2) (x3 : A3) (x4 : A4) (x5 : A5) (x6 : A6) (x7 : A7) (x8 : A8), μ x1 x2 x3 x4 x5 x6 x7 x8 < k → I x1 x2 x3 x4 x5 x6 x7 x8 → V p l e R s m args below meth c nL D A cells slots Q (Wf x1 x2 x3 x4 x5 x6 x7 x8) (Lf x1 x2 x3 x4 x5 x6 x7 x8) pc st := by
    intro k
    induction k with
    | zero => intro x1 x2 x3 x4 x5 x6 x7 x8 h _; exact absurd h (Nat.not_lt_zero _)
    | succ k ih => intro x1 x2 x3 x4 x5 x6 x7 x8 h hI; exact step x1 x2 x3 x4 x5 x6 x7 x8 hI (fun y1 y2 y3 y4 y5 y6 y7 y8 hJ hm => ih y1 y2 y3 y4 y5 y6 y7 y8 (Nat.lt_of_lt_of_le hm (Nat.le_of_lt_succ h)) hJ)
  exact key (μ z1 z2 z3 z4 z5 z6 z7 z8 + 1) z1 z2 z3 z4 z5 z6 z7 z8 (Nat.lt_succ_self _) h0
theorem V.icmp_eq (C : Cx p s m args meth c cc nL own D tys A) {X Y : Int} {x y : Int32} {off : Int} {tgt : Nat} (ex : x.toInt = X) (ey : y.toInt = Y) (hdg : decode cc pc = .ok (.if_icmp .eq off, 3)) (ht : (pc : Int) + off = (tgt : Int)) (hn : pc + 3 = n) (kt : X = Y → V p l e R s m args below meth c nL D A cells slots Q ws lv tgt st) (kf : X ≠ Y → V p l e R s m args below meth c nL D A cells slots Q ws lv n st) : V p l e R s m args below meth c nL D A cells slots Q ws lv pc (.int y :: .int x :: st) := by
  subst hn
  intro H locs ls hP hD hS hl
  exact lv_icmp_eq C.1 C.2.1 hdg ht (fun c9 => kt (by rw [← ex, ← ey, c9]) H locs ls hP hD hS hl) (fun c9 => kf (fun q => c9 (Int32.toInt_inj.mp (by rw [ex, ey]; exact q))) H locs ls hP hD hS hl)
theorem V.icmpn_eq (C : Cx p s m args meth c cc nL own D tys A) {a b : Nat} {off : Int} {tgt : Nat} (ha : a < 2147483648) (hb : b < 2147483648) (hdg : decode cc pc = .ok (.if_icmp .eq off, 3)) (ht : (pc : Int) + off = (tgt : Int)) (hn : pc + 3 = n) (kt : a = b → V p l e R s m args below meth c nL D A cells slots Q ws lv tgt st) (kf : a ≠ b → V p l e R s m args below meth c nL D A cells slots Q ws lv n st) : V p l e R s m args below meth c nL D A cells slots Q ws lv pc (.int (nI b) :: .int (nI a) :: st) := by
  exact V.icmp_eq C (nT ha) (nT hb) hdg ht hn (fun c9 => kt (by omega)) (fun c9 => kf (by omega))
theorem V.if_eq (C : Cx p s m args meth c cc nL own D tys A) {X : Int} {x : Int32} {off : Int} {tgt : Nat} (ex : x.toInt = X) (hdg : decode cc pc = .ok (.ifCond .eq off, 3)) (ht : (pc : Int) + off = (tgt : Int)) (hn : pc + 3 = n) (kt : X = 0 → V p l e R s m args below meth c nL D A cells slots Q ws lv tgt st) (kf : X ≠ 0 → V p l e R s m args below meth c nL D A cells slots Q ws lv n st) : V p l e R s m args below meth c nL D A cells slots Q ws lv pc (.int x :: st) := by
  subst hn
  intro H locs ls hP hD hS hl
  have ey : (0 : Int32).toInt = 0 := by decide
  exact lv_if_eq C.1 C.2.1 hdg ht (fun c9 => kt (by rw [← ex, ← ey, c9]) H locs ls hP hD hS hl) (fun c9 => kf (fun q => c9 (Int32.toInt_inj.mp (by rw [ex, ey]; exact q))) H locs ls hP hD hS hl)
theorem V.ifn_eq (C : Cx p s m args meth c cc nL own D tys A) {a : Nat} {off : Int} {tgt : Nat} (ha : a < 2147483648) (hdg : decode cc pc = .ok (.ifCond .eq off, 3)) (ht : (pc : Int) + off = (tgt : Int)) (hn : pc + 3 = n) (kt : a = 0 → V p l e R s m args below meth c nL D A cells slots Q ws lv tgt st) (kf : a ≠ 0 → V p l e R s m args below meth c nL D A cells slots Q ws lv n st) : V p l e R s m args below meth c nL D A cells slots Q ws lv pc (.int (nI a) :: st) := by
  exact V.if_eq C (nT ha) hdg ht hn (fun c9 => kt (by omega)) (fun c9 => kf (by omega))
theorem V.icmp_ne (C : Cx p s m args meth c cc nL own D tys A) {X Y : Int} {x y : Int32} {off : Int} {tgt : Nat} (ex : x.toInt = X) (ey : y.toInt = Y) (hdg : decode cc pc = .ok (.if_icmp .ne off, 3)) (ht : (pc : Int) + off = (tgt : Int)) (hn : pc + 3 = n) (kt : X ≠ Y → V p l e R s m args below meth c nL D A cells slots Q ws lv tgt st) (kf : X = Y → V p l e R s m args below meth c nL D A cells slots Q ws lv n st) : V p l e R s m args below meth c nL D A cells slots Q ws lv pc (.int y :: .int x :: st) := by
  subst hn
  intro H locs ls hP hD hS hl
  exact lv_icmp_ne C.1 C.2.1 hdg ht (fun c9 => kt (fun q => c9 (Int32.toInt_inj.mp (by rw [ex, ey]; exact q))) H locs ls hP hD hS hl) (fun c9 => kf (by rw [← ex, ← ey, c9]) H locs ls hP hD hS hl)
theorem V.icmpn_ne (C : Cx p s m args meth c cc nL own D tys A) {a b : Nat} {off : Int} {tgt : Nat} (ha : a < 2147483648) (hb : b < 2147483648) (hdg : decode cc pc = .ok (.if_icmp .ne off, 3)) (ht : (pc : Int) + off = (tgt : Int)) (hn : pc + 3 = n) (kt : a ≠ b → V p l e R s m args below meth c nL D A cells slots Q ws lv tgt st) (kf : a = b → V p l e R s m args below meth c nL D A cells slots Q ws lv n st) : V p l e R s m args below meth c nL D A cells slots Q ws lv pc (.int (nI b) :: .int (nI a) :: st) := by
  exact V.icmp_ne C (nT ha) (nT hb) hdg ht hn (fun c9 => kt (by omega)) (fun c9 => kf (by omega))
theorem V.if_ne (C : Cx p s m args meth c cc nL own D tys A) {X : Int} {x : Int32} {off : Int} {tgt : Nat} (ex : x.toInt = X) (hdg : decode cc pc = .ok (.ifCond .ne off, 3)) (ht : (pc : Int) + off = (tgt : Int)) (hn : pc + 3 = n) (kt : X ≠ 0 → V p l e R s m args below meth c nL D A cells slots Q ws lv tgt st) (kf : X = 0 → V p l e R s m args below meth c nL D A cells slots Q ws lv n st) : V p l e R s m args below meth c nL D A cells slots Q ws lv pc (.int x :: st) := by
  subst hn
  intro H locs ls hP hD hS hl
  have ey : (0 : Int32).toInt = 0 := by decide
  exact lv_if_ne C.1 C.2.1 hdg ht (fun c9 => kt (fun q => c9 (Int32.toInt_inj.mp (by rw [ex, ey]; exact q))) H locs ls hP hD hS hl) (fun c9 => kf (by rw [← ex, ← ey, c9]) H locs ls hP hD hS hl)
theorem V.ifn_ne (C : Cx p s m args meth c cc nL own D tys A) {a : Nat} {off : Int} {tgt : Nat} (ha : a < 2147483648) (hdg : decode cc pc = .ok (.ifCond .ne off, 3)) (ht : (pc : Int) + off = (tgt : Int)) (hn : pc + 3 = n) (kt : a ≠ 0 → V p l e R s m args below meth c nL D A cells slots Q ws lv tgt st) (kf : a = 0 → V p l e R s m args below meth c nL D A cells slots Q ws lv n st) : V p l e R s m args below meth c nL D A cells slots Q ws lv pc (.int (nI a) :: st) := by
  exact V.if_ne C (nT ha) hdg ht hn (fun c9 => kt (by omega)) (fun c9 => kf (by omega))
theorem V.icmp_lt (C : Cx p s m args meth c cc nL own D tys A) {X Y : Int} {x y : Int32} {off : Int} {tgt : Nat} (ex : x.toInt = X) (ey : y.toInt = Y) (hdg : decode cc pc = .ok (.if_icmp .lt off, 3)) (ht : (pc : Int) + off = (tgt : Int)) (hn : pc + 3 = n) (kt : X < Y → V p l e R s m args below meth c nL D A cells slots Q ws lv tgt st) (kf : Y ≤ X → V p l e R s m args below meth c nL D A cells slots Q ws lv n st) : V p l e R s m args below meth c nL D A cells slots Q ws lv pc (.int y :: .int x :: st) := by
  subst hn
  intro H locs ls hP hD hS hl
  exact lv_icmp_lt C.1 C.2.1 hdg ht (fun c9 => kt (by rw [← ex, ← ey]; exact Int32.lt_iff_toInt_lt.mp c9) H locs ls hP hD hS hl) (fun c9 => kf (by rw [← ex, ← ey]; exact Int.not_lt.mp (fun q => c9 (Int32.lt_iff_toInt_lt.mpr q))) H locs ls hP hD hS hl)
theorem V.icmpn_lt (C : Cx p s m args meth c cc nL own D tys A) {a b : Nat} {off : Int} {tgt : Nat} (ha : a < 2147483648) (hb : b < 2147483648) (hdg : decode cc pc = .ok (.if_icmp .lt off, 3)) (ht : (pc : Int) + off = (tgt : Int)) (hn : pc + 3 = n) (kt : a < b → V p l e R s m args below meth c nL D A cells slots Q ws lv tgt st) (kf : b ≤ a → V p l e R s m args below meth c nL D A cells slots Q ws lv n st) : V p l e R s m args below meth c nL D A cells slots Q ws lv pc (.int (nI b) :: .int (nI a) :: st) := by
  exact V.icmp_lt C (nT ha) (nT hb) hdg ht hn (fun c9 => kt (by omega)) (fun c9 => kf (by omega))
theorem V.if_lt (C : Cx p s m args meth c cc nL own D tys A) {X : Int} {x : Int32} {off : Int} {tgt : Nat} (ex : x.toInt = X) (hdg : decode cc pc = .ok (.ifCond .lt off, 3)) (ht : (pc : Int) + off = (tgt : Int)) (hn : pc + 3 = n) (kt : X < 0 → V p l e R s m args below meth c nL D A cells slots Q ws lv tgt st) (kf : 0 ≤ X → V p l e R s m args below meth c nL D A cells slots Q ws lv n st) : V p l e R s m args below meth c nL D A cells slots Q ws lv pc (.int x :: st) := by
  subst hn
  intro H locs ls hP hD hS hl
  have ey : (0 : Int32).toInt = 0 := by decide
  exact lv_if_lt C.1 C.2.1 hdg ht (fun c9 => kt (by rw [← ex, ← ey]; exact Int32.lt_iff_toInt_lt.mp c9) H locs ls hP hD hS hl) (fun c9 => kf (by rw [← ex, ← ey]; exact Int.not_lt.mp (fun q => c9 (Int32.lt_iff_toInt_lt.mpr q))) H locs ls hP hD hS hl)
theorem V.ifn_lt (C : Cx p s m args meth c cc nL own D tys A) {a : Nat} {off : Int} {tgt : Nat} (ha : a < 2147483648) (hdg : decode cc pc = .ok (.ifCond .lt off, 3)) (ht : (pc : Int) + off = (tgt : Int)) (hn : pc + 3 = n) (kt : a < 0 → V p l e R s m args below meth c nL D A cells slots Q ws lv tgt st) (kf : 0 ≤ a → V p l e R s m args below meth c nL D A cells slots Q ws lv n st) : V p l e R s m args below meth c nL D A cells slots Q ws lv pc (.int (nI a) :: st) := by
  exact V.if_lt C (nT ha) hdg ht hn (fun c9 => kt (by omega)) (fun c9 => kf (by omega))
theorem V.icmp_ge (C : Cx p s m args meth c cc nL own D tys A) {X Y : Int} {x y : Int32} {off : Int} {tgt : Nat} (ex : x.toInt = X) (ey : y.toInt = Y) (hdg : decode cc pc = .ok (.if_icmp .ge off, 3)) (ht : (pc : Int) + off = (tgt : Int)) (hn : pc + 3 = n) (kt : Y ≤ X → V p l e R s m args below meth c nL D A cells slots Q ws lv tgt st) (kf : X < Y → V p l e R s m args below meth c nL D A cells slots Q ws lv n st) : V p l e R s m args below meth c nL D A cells slots Q ws lv pc (.int y :: .int x :: st) := by
  subst hn
  intro H locs ls hP hD hS hl
  exact lv_icmp_ge C.1 C.2.1 hdg ht (fun c9 => kt (by rw [← ex, ← ey]; exact Int32.le_iff_toInt_le.mp c9) H locs ls hP hD hS hl) (fun c9 => kf (by rw [← ex, ← ey]; exact Int.not_le.mp (fun q => c9 (Int32.le_iff_toInt_le.mpr q))) H locs ls hP hD hS hl)
theorem V.icmpn_ge (C : Cx p s m args meth c cc nL own D tys A) {a b : Nat} {off : Int} {tgt : Nat} (ha : a < 2147483648) (hb : b < 2147483648) (hdg : decode cc pc = .ok (.if_icmp .ge off, 3)) (ht : (pc : Int) + off = (tgt : Int)) (hn : pc + 3 = n) (kt : b ≤ a → V p l e R s m args below meth c nL D A cells slots Q ws lv tgt st) (kf : a < b → V p l e R s m args below meth c nL D A cells slots Q ws lv n st) : V p l e R s m args below meth c nL D A cells slots Q ws lv pc (.int (nI b) :: .int (nI a) :: st) := by
  exact V.icmp_ge C (nT ha) (nT hb) hdg ht hn (fun c9 => kt (by omega)) (fun c9 => kf (by omega))
theorem V.if_ge (C : Cx p s m args meth c cc nL own D tys A) {X : Int} {x : Int32} {off : Int} {tgt : Nat} (ex : x.toInt = X) (hdg : decode cc pc = .ok (.ifCond .ge off, 3)) (ht : (pc : Int) + off = (tgt : Int)) (hn : pc + 3 = n) (kt : 0 ≤ X → V p l e R s m args below meth c nL D A cells slots Q ws lv tgt st) (kf : X < 0 → V p l e R s m args below meth c nL D A cells slots Q ws lv n st) : V p l e R s m args below meth c nL D A cells slots Q ws lv pc (.int x :: st) := by
  subst hn
  intro H locs ls hP hD hS hl
  have ey : (0 : Int32).toInt = 0 := by decide
  exact lv_if_ge C.1 C.2.1 hdg ht (fun c9 => kt (by rw [← ex, ← ey]; exact Int32.le_iff_toInt_le.mp c9) H locs ls hP hD hS hl) (fun c9 => kf (by rw [← ex, ← ey]; exact Int.not_le.mp (fun q => c9 (Int32.le_iff_toInt_le.mpr q))) H locs ls hP hD hS hl)
theorem V.ifn_ge (C : Cx p s m args meth c cc nL own D tys A) {a : Nat} {off : Int} {tgt : Nat} (ha : a < 2147483648) (hdg : decode cc pc = .ok (.ifCond .ge off, 3)) (ht : (pc : Int) + off = (tgt : Int)) (hn : pc + 3 = n) (kt : 0 ≤ a → V p l e R s m args below meth c nL D A cells slots Q ws lv tgt st) (kf : a < 0 → V p l e R s m args below meth c nL D A cells slots Q ws lv n st) : V p l e R s m args below meth c nL D A cells slots Q ws lv pc (.int (nI a) :: st) := by
  exact V.if_ge C (nT ha) hdg ht hn (fun c9 => kt (by omega)) (fun c9 => kf (by omega))
theorem V.icmp_gt (C : Cx p s m args meth c cc nL own D tys A) {X Y : Int} {x y : Int32} {off : Int} {tgt : Nat} (ex : x.toInt = X) (ey : y.toInt = Y) (hdg : decode cc pc = .ok (.if_icmp .gt off, 3)) (ht : (pc : Int) + off = (tgt : Int)) (hn : pc + 3 = n) (kt : Y < X → V p l e R s m args below meth c nL D A cells slots Q ws lv tgt st) (kf : X ≤ Y → V p l e R s m args below meth c nL D A cells slots Q ws lv n st) : V p l e R s m args below meth c nL D A cells slots Q ws lv pc (.int y :: .int x :: st) := by
  subst hn
  intro H locs ls hP hD hS hl
  exact lv_icmp_gt C.1 C.2.1 hdg ht (fun c9 => kt (by rw [← ex, ← ey]; exact Int32.lt_iff_toInt_lt.mp c9) H locs ls hP hD hS hl) (fun c9 => kf (by rw [← ex, ← ey]; exact Int.not_lt.mp (fun q => c9 (Int32.lt_iff_toInt_lt.mpr q))) H locs ls hP hD hS hl)
theorem V.icmpn_gt (C : Cx p s m args meth c cc nL own D tys A) {a b : Nat} {off : Int} {tgt : Nat} (ha : a < 2147483648) (hb : b < 2147483648) (hdg : decode cc pc = .ok (.if_icmp .gt off, 3)) (ht : (pc : Int) + off = (tgt : Int)) (hn : pc + 3 = n) (kt : b < a → V p l e R s m args below meth c nL D A cells slots Q ws lv tgt st) (kf : a ≤ b → V p l e R s m args below meth c nL D A cells slots Q ws lv n st) : V p l e R s m args below meth c nL D A cells slots Q ws lv pc (.int (nI b) :: .int (nI a) :: st) := by
  exact V.icmp_gt C (nT ha) (nT hb) hdg ht hn (fun c9 => kt (by omega)) (fun c9 => kf (by omega))
theorem V.if_gt (C : Cx p s m args meth c cc nL own D tys A) {X : Int} {x : Int32} {off : Int} {tgt : Nat} (ex : x.toInt = X) (hdg : decode cc pc = .ok (.ifCond .gt off, 3)) (ht : (pc : Int) + off = (tgt : Int)) (hn : pc + 3 = n) (kt : 0 < X → V p l e R s m args below meth c nL D A cells slots Q ws lv tgt st) (kf : X ≤ 0 → V p l e R s m args below meth c nL D A cells slots Q ws lv n st) : V p l e R s m args below meth c nL D A cells slots Q ws lv pc (.int x :: st) := by
  subst hn
  intro H locs ls hP hD hS hl
  have ey : (0 : Int32).toInt = 0 := by decide
  exact lv_if_gt C.1 C.2.1 hdg ht (fun c9 => kt (by rw [← ex, ← ey]; exact Int32.lt_iff_toInt_lt.mp c9) H locs ls hP hD hS hl) (fun c9 => kf (by rw [← ex, ← ey]; exact Int.not_lt.mp (fun q => c9 (Int32.lt_iff_toInt_lt.mpr q))) H locs ls hP hD hS hl)
theorem V.ifn_gt (C : Cx p s m args meth c cc nL own D tys A) {a : Nat} {off : Int} {tgt : Nat} (ha : a < 2147483648) (hdg : decode cc pc = .ok (.ifCond .gt off, 3)) (ht : (pc : Int) + off = (tgt : Int)) (hn : pc + 3 = n) (kt : 0 < a → V p l e R s m args below meth c nL D A cells slots Q ws lv tgt st) (kf : a ≤ 0 → V p l e R s m args below meth c nL D A cells slots Q ws lv n st) : V p l e R s m args below meth c nL D A cells slots Q ws lv pc (.int (nI a) :: st) := by
  exact V.if_gt C (nT ha) hdg ht hn (fun c9 => kt (by omega)) (fun c9 => kf (by omega))
theorem V.icmp_le (C : Cx p s m args meth c cc nL own D tys A) {X Y : Int} {x y : Int32} {off : Int} {tgt : Nat} (ex : x.toInt = X) (ey : y.toInt = Y) (hdg : decode cc pc = .ok (.if_icmp .le off, 3)) (ht : (pc : Int) + off = (tgt : Int)) (hn : pc + 3 = n) (kt : X ≤ Y → V p l e R s m args below meth c nL D A cells slots Q ws lv tgt st) (kf : Y < X → V p l e R s m args below meth c nL D A cells slots Q ws lv n st) : V p l e R s m args below meth c nL D A cells slots Q ws lv pc (.int y :: .int x :: st) := by
  subst hn
  intro H locs ls hP hD hS hl
  exact lv_icmp_le C.1 C.2.1 hdg ht (fun c9 => kt (by rw [← ex, ← ey]; exact Int32.le_iff_toInt_le.mp c9) H locs ls hP hD hS hl) (fun c9 => kf (by rw [← ex, ← ey]; exact Int.not_le.mp (fun q => c9 (Int32.le_iff_toInt_le.mpr q))) H locs ls hP hD hS hl)
theorem V.icmpn_le (C : Cx p s m args meth c cc nL own D tys A) {a b : Nat} {off : Int} {tgt : Nat} (ha : a < 2147483648) (hb : b < 2147483648) (hdg : decode cc pc = .ok (.if_icmp .le off, 3)) (ht : (pc : Int) + off = (tgt : Int)) (hn : pc + 3 = n) (kt : a ≤ b → V p l e R s m args below meth c nL D A cells slots Q ws lv tgt st) (kf : b < a → V p l e R s m args below meth c nL D A cells slots Q ws lv n st) : V p l e R s m args below meth c nL D A cells slots Q ws lv pc (.int (nI b) :: .int (nI a) :: st) := by
  exact V.icmp_le C (nT ha) (nT hb) hdg ht hn (fun c9 => kt (by omega)) (fun c9 => kf (by omega))
theorem V.if_le (C : Cx p s m args meth c cc nL own D tys A) {X : Int} {x : Int32} {off : Int} {tgt : Nat} (ex : x.toInt = X) (hdg : decode cc pc = .ok (.ifCond .le off, 3)) (ht : (pc : Int) + off = (tgt : Int)) (hn : pc + 3 = n) (kt : X ≤ 0 → V p l e R s m args below meth c nL D A cells slots Q ws lv tgt st) (kf : 0 < X → V p l e R s m args below meth c nL D A cells slots Q ws lv n st) : V p l e R s m args below meth c nL D A cells slots Q ws lv pc (.int x :: st) := by
  subst hn
  intro H locs ls hP hD hS hl
  have ey : (0 : Int32).toInt = 0 := by decide
  exact lv_if_le C.1 C.2.1 hdg ht (fun c9 => kt (by rw [← ex, ← ey]; exact Int32.le_iff_toInt_le.mp c9) H locs ls hP hD hS hl) (fun c9 => kf (by rw [← ex, ← ey]; exact Int.not_le.mp (fun q => c9 (Int32.le_iff_toInt_le.mpr q))) H locs ls hP hD hS hl)
theorem V.ifn_le (C : Cx p s m args meth c cc nL own D tys A) {a : Nat} {off : Int} {tgt : Nat} (ha : a < 2147483648) (hdg : decode cc pc = .ok (.ifCond .le off, 3)) (ht : (pc : Int) + off = (tgt : Int)) (hn : pc + 3 = n) (kt : a ≤ 0 → V p l e R s m args below meth c nL D A cells slots Q ws lv tgt st) (kf : 0 < a → V p l e R s m args below meth c nL D A cells slots Q ws lv n st) : V p l e R s m args below meth c nL D A cells slots Q ws lv pc (.int (nI a) :: st) := by
  exact V.if_le C (nT ha) hdg ht hn (fun c9 => kt (by omega)) (fun c9 => kf (by omega))
theorem V.ifb_eq (C : Cx p s m args meth c cc nL own D tys A) {P : Prop} {off : Int} {tgt : Nat} (hdg : decode cc pc = .ok (.ifCond .eq off, 3)) (ht : (pc : Int) + off = (tgt : Int)) (hn : pc + 3 = n) (kt : ¬ P → V p l e R s m args below meth c nL D A cells slots Q ws lv tgt st) (kf : P → V p l e R s m args below meth c nL D A cells slots Q ws lv n st) : V p l e R s m args below meth c nL D A cells slots Q ws lv pc (.int (bI P) :: st) := by
  subst hn
  intro H locs ls hP hD hS hl
  exact lv_if_eq C.1 C.2.1 hdg ht (fun c9 => kt (bI_z.mp c9) H locs ls hP hD hS hl) (fun c9 => kf (Classical.byContradiction fun q => c9 (bI_f q)) H locs ls hP hD hS hl)
theorem V.ifb_ne (C : Cx p s m args meth c cc nL own D tys A) {P : Prop} {off : Int} {tgt : Nat} (hdg : decode cc pc = .ok (.ifCond .ne off, 3)) (ht : (pc : Int) + off = (tgt : Int)) (hn : pc + 3 = n) (kt : P → V p l e R s m args below meth c nL D A cells slots Q ws lv tgt st) (kf : ¬ P → V p l e R s m args below meth c nL D A cells slots Q ws lv n st) : V p l e R s m args below meth c nL D A cells slots Q ws lv pc (.int (bI P) :: st) := by
  subst hn
  intro H locs ls hP hD hS hl
  exact lv_if_ne C.1 C.2.1 hdg ht (fun c9 => kt (Classical.byContradiction fun q => c9 (bI_f q)) H locs ls hP hD hS hl) (fun c9 => kf (bI_z.mp c9) H locs ls hP hD hS hl)
theorem V.goto (C : Cx p s m args meth c cc nL own D tys A) {off : Int} (hdg : decode cc pc = .ok (.goto off, 3)) (ht : (pc : Int) + off = (n : Int)) (k : V p l e R s m args below meth c nL D A cells slots Q ws lv n st) : V p l e R s m args below meth c nL D A cells slots Q ws lv pc st := by
  intro H locs ls hP hD hS hl
  exact lv_goto C.1 C.2.1 hdg ht (k H locs ls hP hD hS hl)
theorem V.tableIn (C : Cx p s m args meth c cc nL own D tys A) {dflt lo hi off X : Int} {offs : Array Int} {len : Nat} {x : Int32} (ex : x.toInt = X) (hdg : decode cc pc = .ok (.tableswitch dflt lo hi offs, len)) (h1 : ¬ X < lo) (h2 : ¬ hi < X) (ho : offs[(X - lo).toNat]? = some off) (ht : (pc : Int) + off = (n : Int)) (k : V p l e R s m args below meth c nL D A cells slots Q ws lv n st) : V p l e R s m args below meth c nL D A cells slots Q ws lv pc (.int x :: st) := by
  subst ex
  intro H locs ls hP hD hS hl
  exact lv_tableIn C.1 C.2.1 hdg h1 h2 ho ht (k H locs ls hP hD hS hl)
theorem V.tableOut (C : Cx p s m args meth c cc nL own D tys A) {dflt lo hi X : Int} {offs : Array Int} {len : Nat} {x : Int32} (ex : x.toInt = X) (hdg : decode cc pc = .ok (.tableswitch dflt lo hi offs, len)) (h : X < lo ∨ hi < X) (ht : (pc : Int) + dflt = (n : Int)) (k : V p l e R s m args below meth c nL D A cells slots Q ws lv n st) : V p l e R s m args below meth c nL D A cells slots Q ws lv pc (.int x :: st) := by
  subst ex
  intro H locs ls hP hD hS hl
  exact lv_tableOut C.1 C.2.1 hdg h ht (k H locs ls hP hD hS hl)
/-- a class's rows: its words are among wT, types, names apart -/
def clOk (ci : Nat) (C : String) (T : u_T) (N : Nat) (ty : Nat → FieldType) : Prop := vwCl[ci]? = some (C, T, N) ∧ (∀ w ∈ u_ws C T N, w ∈ wT) ∧ (∀ k, k < N → parseFieldDescriptor (T k).2.2.1 = some (ty k)) ∧ ∀ a, a < N → ∀ b, b < N → a ≠ b → (T a).2.1 ≠ (T b).2.1
theorem V.get (C : Cx p s m args meth c cc nL own D tys A) {ci N : Nat} {Cn : String} {T : u_T} {ty : Nat → FieldType} {a idx q0 k0 : Nat} {fs : List Value} {v : Value} (hc : clOk ci Cn T N ty) (he : ws[q0]? = some (a, .inr (ci, fs))) (hk : k0 < N) (hT : (T k0).1 = Cn) (hlink : .fieldLink own idx Cn (T k0).2.1 (T k0).2.2.1 ∈ wT) (hv : fs[k0]? = some v) (hdg : decode cc pc = .ok (.getfield idx, 3)) (hn : pc + 3 = n) (k : V p l e R s m args below meth c nL D A cells slots Q ws lv n (v :: st)) : V p l e R s m args below meth c nL D A cells slots Q ws lv pc (.ref a :: st) := by
  subst hn
  obtain ⟨h1, h2, h3, h4⟩ := hc
  intro H locs ls hP hD hS hl
  exact va_get C.1 C.2.1 C.2.2.2.2.1 h2 C.2.2.2.1 C.2.2.2.2.2.1 hP q0 he h1 k0 hk (C.2.2.2.2.1 _ hlink) (fun x9 h9 => by rw [hT] at h9; exact h9) hv hdg (k H locs ls hP hD hS hl)
theorem V.put (C : Cx p s m args meth c cc nL own D tys A) {ci N : Nat} {Cn : String} {T : u_T} {ty : Nat → FieldType} {a idx q0 k0 : Nat} {fs : List Value} {v : Value} (hc : clOk ci Cn T N ty) (he : ws[q0]? = some (a, .inr (ci, fs))) (hk : k0 < N) (hT : (T k0).1 = Cn) (hfin : (T k0).2.2.2 = false) (hlink : .fieldLink own idx Cn (T k0).2.1 (T k0).2.2.1 ∈ wT) (hnar : narrow (ty k0) v = v) (hfit : fits (ty k0) v = true) (hlen : k0 < fs.length) (hw : ws.set q0 (a, .inr (ci, fs.set k0 v)) = ws') (hdg : decode cc pc = .ok (.putfield idx, 3)) (hn : pc + 3 = n) (k : V p l e R s m args below meth c nL D A cells slots Q ws' lv n st) : V p l e R s m args below meth c nL D A cells slots Q ws lv pc (v :: .ref a :: st) := by
  subst hn
  subst hw
  obtain ⟨h1, h2, h3, h4⟩ := hc
  intro H locs ls hP hD hS hl
  exact va_put C.1 C.2.1 C.2.2.2.2.1 h2 ty h3 h4 C.2.2.2.1 C.2.2.2.2.2.1 hP hD hS q0 he h1 k0 hk (C.2.2.2.2.1 _ hlink) (fun x9 h9 => by rw [hT] at h9; exact h9) hfin (h3 k0 hk) hnar hfit hlen hdg (fun H1 locs1 hP1 hD1 hS1 => k H1 locs1 ls hP1 hD1 hS1 hl)
theorem V.putF (C : Cx p s m args meth c cc nL own D tys A) {ci N : Nat} {Cn : String} {T : u_T} {ty : Nat → FieldType} {a idx q0 k0 : Nat} {fs : List Value} {v : Value} (hin : meth.name = "<init>") (ho : Cn = own) (hc : clOk ci Cn T N ty) (he : ws[q0]? = some (a, .inr (ci, fs))) (hk : k0 < N) (hT : (T k0).1 = Cn) (hfin : (T k0).2.2.2 = true) (hlink : .fieldLink own idx Cn (T k0).2.1 (T k0).2.2.1 ∈ wT) (hnar : narrow (ty k0) v = v) (hfit : fits (ty k0) v = true) (hlen : k0 < fs.length) (hw : ws.set q0 (a, .inr (ci, fs.set k0 v)) = ws') (hdg : decode cc pc = .ok (.putfield idx, 3)) (hn : pc + 3 = n) (k : V p l e R s m args below meth c nL D A cells slots Q ws' lv n st) : V p l e R s m args below meth c nL D A cells slots Q ws lv pc (v :: .ref a :: st) := by
  subst hn
  subst hw
  obtain ⟨h1, h2, h3, h4⟩ := hc
  intro H locs ls hP hD hS hl
  exact va_putF C.1 C.2.1 C.2.2.2.2.1 h2 ty h3 h4 C.2.2.2.1 C.2.2.2.2.2.1 hP hD hS q0 he h1 k0 hk (C.2.2.2.2.1 _ hlink) (fun x9 h9 => by rw [hT] at h9; exact h9) hfin hin (hT.trans ho) (h3 k0 hk) hnar hfit hlen hdg (fun H1 locs1 hP1 hD1 hS1 => k H1 locs1 ls hP1 hD1 hS1 hl)
theorem V.iaload_n (C : Cx p s m args meth c cc nL own D tys A) {a q0 t0 N i : Nat} {cA : ClassId} {f : Nat → Nat} (he : ws[q0]? = some (a, .inl (cA, N, .inl (fun j => nI (f j))))) (ht : tys.1[t0]? = some (cA, .int)) (hi : i < N) (hN : N < 2147483648) (hdg : decode cc pc = .ok (.iaload, 1)) (hn : pc + 1 = n) (k : V p l e R s m args below meth c nL D A cells slots Q ws lv n (.int (nI (f i)) :: st)) : V p l e R s m args below meth c nL D A cells slots Q ws lv pc (.int (nI i) :: .ref a :: st) := by
  subst hn
  intro H locs ls hP hD hS hl
  refine va_iald C.1 C.2.1 C.2.2.2.2.2.1 hP q0 t0 he ht (vp_in_nI hi (by simpa using hN)) hdg ?_
  rw [nI_clamp (show i < 2 ^ 31 by simp; omega)]
  exact k H locs ls hP hD hS hl
theorem V.iaload_z (C : Cx p s m args meth c cc nL own D tys A) {a q0 t0 N i : Nat} {cA : ClassId} {f : Nat → Int} (he : ws[q0]? = some (a, .inl (cA, N, .inl (fun j => iI (f j))))) (ht : tys.1[t0]? = some (cA, .int)) (hi : i < N) (hN : N < 2147483648) (hdg : decode cc pc = .ok (.iaload, 1)) (hn : pc + 1 = n) (k : V p l e R s m args below meth c nL D A cells slots Q ws lv n (.int (iI (f i)) :: st)) : V p l e R s m args below meth c nL D A cells slots Q ws lv pc (.int (nI i) :: .ref a :: st) := by
  subst hn
  intro H locs ls hP hD hS hl
  refine va_iald C.1 C.2.1 C.2.2.2.2.2.1 hP q0 t0 he ht (vp_in_nI hi (by simpa using hN)) hdg ?_
  rw [nI_clamp (show i < 2 ^ 31 by simp; omega)]
  exact k H locs ls hP hD hS hl
theorem V.caload_n (C : Cx p s m args meth c cc nL own D tys A) {a q0 t0 N i : Nat} {cA : ClassId} {f : Nat → Nat} (he : ws[q0]? = some (a, .inl (cA, N, .inl (fun j => nI (f j))))) (ht : tys.1[t0]? = some (cA, .char)) (hi : i < N) (hN : N < 2147483648) (hdg : decode cc pc = .ok (.caload, 1)) (hn : pc + 1 = n) (k : V p l e R s m args below meth c nL D A cells slots Q ws lv n (.int (nI (f i)) :: st)) : V p l e R s m args below meth c nL D A cells slots Q ws lv pc (.int (nI i) :: .ref a :: st) := by
  subst hn
  intro H locs ls hP hD hS hl
  refine va_cald C.1 C.2.1 C.2.2.2.2.2.1 hP q0 t0 he ht (vp_in_nI hi (by simpa using hN)) hdg ?_
  rw [nI_clamp (show i < 2 ^ 31 by simp; omega)]
  exact k H locs ls hP hD hS hl
theorem V.iastore_n (C : Cx p s m args meth c cc nL own D tys A) {a q0 t0 N i : Nat} {cA : ClassId} {f : Nat → Nat} {x : Nat} (he : ws[q0]? = some (a, .inl (cA, N, .inl (fun j => nI (f j))))) (ht : tys.1[t0]? = some (cA, .int)) (hi : i < N) (hN : N < 2147483648) (hw : ws.set q0 (a, .inl (cA, N, .inl (fun j => nI (updN f i x j)))) = ws') (hdg : decode cc pc = .ok (.iastore, 1)) (hn : pc + 1 = n) (k : V p l e R s m args below meth c nL D A cells slots Q ws' lv n st) : V p l e R s m args below meth c nL D A cells slots Q ws lv pc (.int (nI x) :: .int (nI i) :: .ref a :: st) := by
  subst hn
  subst hw
  intro H locs ls hP hD hS hl
  refine va_iast C.1 C.2.1 C.2.2.2.2.2.1 hP hD hS q0 t0 he ht (vp_in_nI hi (by simpa using hN)) hdg (fun H1 locs1 hP1 hD1 hS1 => ?_)
  rw [nI_clamp (show i < 2 ^ 31 by simp; omega), upd_nI] at hP1 hD1
  exact k H1 locs1 ls hP1 hD1 hS1 hl
theorem V.iastore_z (C : Cx p s m args meth c cc nL own D tys A) {a q0 t0 N i : Nat} {cA : ClassId} {f : Nat → Int} {x : Int} (he : ws[q0]? = some (a, .inl (cA, N, .inl (fun j => iI (f j))))) (ht : tys.1[t0]? = some (cA, .int)) (hi : i < N) (hN : N < 2147483648) (hw : ws.set q0 (a, .inl (cA, N, .inl (fun j => iI (updZ f i x j)))) = ws') (hdg : decode cc pc = .ok (.iastore, 1)) (hn : pc + 1 = n) (k : V p l e R s m args below meth c nL D A cells slots Q ws' lv n st) : V p l e R s m args below meth c nL D A cells slots Q ws lv pc (.int (iI x) :: .int (nI i) :: .ref a :: st) := by
  subst hn
  subst hw
  intro H locs ls hP hD hS hl
  refine va_iast C.1 C.2.1 C.2.2.2.2.2.1 hP hD hS q0 t0 he ht (vp_in_nI hi (by simpa using hN)) hdg (fun H1 locs1 hP1 hD1 hS1 => ?_)
  rw [nI_clamp (show i < 2 ^ 31 by simp; omega), upd_iI] at hP1 hD1
  exact k H1 locs1 ls hP1 hD1 hS1 hl
theorem V.castore_n (C : Cx p s m args meth c cc nL own D tys A) {a q0 t0 N i : Nat} {cA : ClassId} {f : Nat → Nat} {x : Nat} (he : ws[q0]? = some (a, .inl (cA, N, .inl (fun j => nI (f j))))) (ht : tys.1[t0]? = some (cA, .char)) (hi : i < N) (hN : N < 2147483648) (hx : vp_nar .char (nI x) = nI x) (hw : ws.set q0 (a, .inl (cA, N, .inl (fun j => nI (updN f i x j)))) = ws') (hdg : decode cc pc = .ok (.castore, 1)) (hn : pc + 1 = n) (k : V p l e R s m args below meth c nL D A cells slots Q ws' lv n st) : V p l e R s m args below meth c nL D A cells slots Q ws lv pc (.int (nI x) :: .int (nI i) :: .ref a :: st) := by
  subst hn
  subst hw
  intro H locs ls hP hD hS hl
  refine va_cast C.1 C.2.1 C.2.2.2.2.2.1 hP hD hS q0 t0 he ht (vp_in_nI hi (by simpa using hN)) hdg (fun H1 locs1 hP1 hD1 hS1 => ?_)
  rw [nI_clamp (show i < 2 ^ 31 by simp; omega), hx, upd_nI] at hP1 hD1
  exact k H1 locs1 ls hP1 hD1 hS1 hl
theorem V.max_n (C : Cx p s m args meth c cc nL own D tys A) {a b idx : Nat} (hw : .methodLink own idx Lib.Math.max.name ∈ wT ∧ .static Lib.Math.max.name ∈ wT ∧ .initialized "java/lang/Math" ∈ wT ∧ .code Lib.Math.max.name Lib.Math.max.code 2 (some .int) ∈ wT) (hfr : 1 ≤ R.frames) (hlo : (st.map fun v => v.category).sum + 13 ≤ R.locals) (hcs : cells ≤ R.cells ∧ slots ≤ R.slots) (ha : a < 2147483648) (hb : b < 2147483648) (hdg : decode cc pc = .ok (.invokestatic idx, 3)) (hn : pc + 3 = n) (k : V p l e R s m args below meth c nL D A cells slots Q ws lv n (.int (nI (max a b)) :: st)) : V p l e R s m args below meth c nL D A cells slots Q ws lv pc (.int (nI b) :: .int (nI a) :: st) := by
  subst hn
  intro H locs ls hP hD hS hl
  refine va_mmax C.1 C.2.1 (C.2.2.1.trans hl.1.symm) C.2.2.2.1 (C.2.2.2.2.1 _ hw.1) (C.2.2.2.2.1 _ hw.2.1) (C.2.2.2.2.1 _ hw.2.2.1) (C.2.2.2.2.1 _ hw.2.2.2) hfr hlo hcs.1 hcs.2 hdg ?_
  rw [show (if nI a < nI b then nI b else nI a) = nI (max a b) from ?_]
  · exact k H locs ls hP hD hS hl
  · by_cases h : a < b
    · rw [if_pos (nI_lt h (by simpa using hb)), Nat.max_eq_right (Nat.le_of_lt h)]
    · rw [if_neg (nI_nlt (Nat.not_lt.mp h) (by simpa using ha)), Nat.max_eq_left (Nat.not_lt.mp h)]
theorem V.max_z (C : Cx p s m args meth c cc nL own D tys A) {X Y : Int} {x y : Int32} {idx : Nat} (hw : .methodLink own idx Lib.Math.max.name ∈ wT ∧ .static Lib.Math.max.name ∈ wT ∧ .initialized "java/lang/Math" ∈ wT ∧ .code Lib.Math.max.name Lib.Math.max.code 2 (some .int) ∈ wT) (hfr : 1 ≤ R.frames) (hlo : (st.map fun v => v.category).sum + 13 ≤ R.locals) (hcs : cells ≤ R.cells ∧ slots ≤ R.slots) (ex : x = iI X) (ey : y = iI Y) (hX : -2147483648 ≤ X ∧ X < 2147483648) (hY : -2147483648 ≤ Y ∧ Y < 2147483648) (hdg : decode cc pc = .ok (.invokestatic idx, 3)) (hn : pc + 3 = n) (k : V p l e R s m args below meth c nL D A cells slots Q ws lv n (.int (iI (max X Y)) :: st)) : V p l e R s m args below meth c nL D A cells slots Q ws lv pc (.int y :: .int x :: st) := by
  subst hn
  subst ex
  subst ey
  intro H locs ls hP hD hS hl
  refine va_mmax C.1 C.2.1 (C.2.2.1.trans hl.1.symm) C.2.2.2.1 (C.2.2.2.2.1 _ hw.1) (C.2.2.2.2.1 _ hw.2.1) (C.2.2.2.2.1 _ hw.2.2.1) (C.2.2.2.2.1 _ hw.2.2.2) hfr hlo hcs.1 hcs.2 hdg ?_
  rw [show (if iI X < iI Y then iI Y else iI X) = iI (max X Y) from ?_]
  · exact k H locs ls hP hD hS hl
  · have h0 : iI X < iI Y ↔ X < Y := by rw [Int32.lt_iff_toInt_lt, iI_toInt hX.1 hX.2, iI_toInt hY.1 hY.2]
    by_cases h : X < Y
    · rw [if_pos (h0.mpr h), Int.max_eq_right (Int.le_of_lt h)]
    · rw [if_neg (fun q => h (h0.mp q)), Int.max_eq_left (Int.not_lt.mp h)]
theorem V.newarr (C : Cx p s m args meth c cc nL own D tys A) {at9 : ArrayType} {ty : FieldType} {N : Nat} {a0 : vp_A} {cA : ClassId} {t0 : Nat} (harr : .arrayClass (newarray.typeOf at9) ∈ wT) (hty : newarray.typeOf at9 = ty) (hta : tys.1[t0]? = some (cA, ty)) (ha : ∀ cA : ClassId, vp_cell cA a0 = arrV cA N (fun _ => defaultValue ty)) (hobj : ∀ Cn, ty ≠ .object Cn) (hN : N < 2147483648) (hby : N * componentBytes ty ≤ 536870912) (hcs : cells + 1 ≤ R.cells) (hsl : slots + N ≤ R.slots) (hdg : decode cc pc = .ok (.newarray at9, 2)) (hn : pc + 2 = n) (k : ∀ q : Nat, V p l e R s m args below meth c nL D A (cells + 1) (slots + N) Q (ws ++ [(q, .inl (cA, a0))]) lv n (.ref q :: st)) : V p l e R s m args below meth c nL D A cells slots Q ws lv pc (.int (nI N) :: st) := by
  subst hn
  intro H locs ls hP hD hS hl
  refine va_newa C.1 C.2.1 (C.2.2.2.2.1 _ harr) hty C.2.2.2.2.2.1 hP hD hS C.2.2.2.2.2.2.1 ha (nI_pos (by simpa using hN)) (nI_clamp (by simpa using hN)) hby hcs hsl hdg (fun q cB H1 hK1 hP1 hD1 hS1 => ?_)
  have e1 : cB = cA := by
    have h1 := (hK1.2 tys.1.length (cB, ty) (by simp)).2
    have h2 := (C.2.2.2.2.2.1.2 t0 _ hta).2
    have h3 : s.vm.findClass ("[" ++ ty.toString) = some cB := by cases ty <;> first | exact h1 | exact absurd rfl (hobj _)
    have h4 : s.vm.findClass ("[" ++ ty.toString) = some cA := by cases ty <;> first | exact h2 | exact absurd rfl (hobj _)
    exact Option.some.inj (h3.symm.trans h4)
  subst e1
  exact k q H1 locs ls hP1 hD1 hS1 hl
theorem V.new (C : Cx p s m args meth c cc nL own D tys A) {ci N idx : Nat} {Cn : String} {T : u_T} {ty : Nat → FieldType} {fs : List Value} (hc : clOk ci Cn T N ty) (hw : .classLink own idx Cn ∈ wT ∧ .instantiable Cn N ∈ wT ∧ .initialized Cn ∈ wT) (hfs : ∀ j, j < N → defaultValue (ty j) = vp_V fs j) (hcs : cells + 1 ≤ R.cells) (hsl : slots + N ≤ R.slots) (hdg : decode cc pc = .ok (.new idx, 3)) (hn : pc + 3 = n) (k : ∀ q : Nat, V p l e R s m args below meth c nL D A (cells + 1) (slots + N) Q (ws ++ [(q, .inr (ci, fs))]) lv n (.ref q :: st)) : V p l e R s m args below meth c nL D A cells slots Q ws lv pc st := by
  subst hn
  obtain ⟨h1, h2, h3, h4⟩ := hc
  intro H locs ls hP hD hS hl
  exact va_new C.1 C.2.1 C.2.2.2.2.1 h2 ty h3 C.2.2.2.1 (C.2.2.2.2.1 _ hw.1) (C.2.2.2.2.1 _ hw.2.1) (C.2.2.2.2.1 _ hw.2.2) C.2.2.2.2.2.1 hP hD hS C.2.2.2.2.2.2.1 h1 hfs hcs hsl hdg (fun q H1 hP1 hD1 hS1 => k q H1 locs ls hP1 hD1 hS1 hl)
theorem V.objInit (C : Cx p s m args meth c cc nL own D tys A) {a idx : Nat} (hw : .methodLink own idx Lib.objectInit ∈ wT ∧ .instanceMethod Lib.objectInit ∈ wT ∧ .code Lib.objectInit ⟨#[0xb1]⟩ 1 none ∈ wT) (hfr : 1 ≤ R.frames) (hlo : (st.map fun v => v.category).sum + 12 ≤ R.locals) (hdg : decode cc pc = .ok (.invokespecial idx, 3)) (hn : pc + 3 = n) (k : V p l e R s m args below meth c nL D A cells slots Q ws lv n st) : V p l e R s m args below meth c nL D A cells slots Q ws lv pc (.ref a :: st) := by
  subst hn
  intro H locs ls hP hD hS hl
  exact W.objInit C.1 C.2.1 C.2.2.2.1 (C.2.2.2.2.1 _ hw.1) (C.2.2.2.2.1 _ hw.2.1) (C.2.2.2.2.1 _ hw.2.2) (g := F0 m pc ls (.ref a :: st)) rfl (hl.1.trans C.2.2.1.symm) rfl hdg hfr (by show 2 * 0 + _ + 12 ≤ _; omega) (k H locs ls hP hD hS hl)
theorem V.widen (C : Cx p s m args meth c cc nL own D tys A) {k0 n0 : Nat} (h1 : cells ≤ k0) (h2 : slots ≤ n0) (k : V p l e R s m args below meth c nL D A k0 n0 Q ws lv pc st) : V p l e R s m args below meth c nL D A cells slots Q ws lv pc st := by
  intro H locs ls hP hD hS hl
  exact W.widen h1 h2 (k H locs ls hP hD hS hl)
theorem V.re (C : Cx p s m args meth c cc nL own D tys A) (is : List Nat) (h : pickW ws is = ws') (hb : ∀ i ∈ is, i < ws.length) (hn : va_nd is = true) (k : V p l e R s m args below meth c nL D A cells slots Q ws' lv pc st) : V p l e R s m args below meth c nL D A cells slots Q ws lv pc st := by
  subst h
  intro H locs ls hP hD hS hl
  exact k H locs ls (hP.sub is rfl) (hD.sub is hn (pickW_map hb)) hS hl
/-- a contract's start is blind to the frame, and holds at a call -/
theorem pre_blind {As : List Value} {W0 : va_W} {sz : Nat} : FrameBlind (va_Pc As (fun U => U.heap.size = sz ∧ va_P D vwCl W0 U.heap ∧ va_K D vwCl tys.1 U ∧ va_D (fun _ => True) W0 ∧ SF tys.2 (va_A W0 sz) U)) := fun a U g mk q => by
  obtain ⟨q0, q1, qP, qK, qD, qF⟩ := q
  exact ⟨q0, q1, qP, va_K.moved (u := U) (U := U.calling g mk a) (Vm.Alike.refl U.vm) qK, qD, SF_calling qF⟩
theorem pre_at (C : Cx p s m args meth c cc nL own D tys A) {As : List Value} {W0 : va_W} {is : List Nat} {H : Heap} {locs : List Loc} (hP : va_P D vwCl ws H) (hD : va_D A ws) (hS : va_S A s.heap H locs) (hC : pickW ws is = W0) (hb : ∀ i ∈ is, i < ws.length) (hnd : va_nd is = true) : ∀ U : State, U.heap = H → s.WarmedH U.vm → va_Pc As (fun U => U.heap.size = H.size ∧ va_P D vwCl W0 U.heap ∧ va_K D vwCl tys.1 U ∧ va_D (fun _ => True) W0 ∧ SF tys.2 (va_A W0 H.size) U) As.toArray U := by
  intro U hU hW
  have hm : is.map (fun i => ws[i]?) = W0.map some := by rw [← hC]; exact pickW_map hb
  exact ⟨rfl, by rw [hU], by rw [hU]; exact hP.sub is hC, va_K.moved hW.alike C.2.2.2.2.2.1, (hD.sub is hnd hm).weaken (fun _ _ _ _ => trivial), SF_call C.2.2.2.2.2.2.2.2 hS (va_free hD hS C.2.2.2.2.2.2.1 is hm) hU hW⟩
theorem V.behind_i (C : Cx p s m args meth c cc nL own D tys A) {isC isR pm : List Nat} {W0 W1 : va_W} {R' : Int32} {a : Array Value}
    (hC : pickW ws isC = W0) (hbC : ∀ i ∈ isC, i < ws.length) (hbR : ∀ i ∈ isR, i < ws.length) (hnR : va_nd isR = true) (hdis : ∀ i ∈ isR, i ∉ isC) (hw : pickW (pickW ws isR ++ W1) pm = ws') (hbP : ∀ i ∈ pm, i < (pickW ws isR ++ W1).length) (hnP : va_nd pm = true)
    (hrun : ∀ (H : Heap) (locs : List Loc) (ls : Array Slot), va_P D vwCl ws H → va_D A ws → va_S A s.heap H locs → lv_has ls nL lv → va_Run p l e R s m args below meth c H locs cells slots 0 0 (F0 m pc ls st) rest (va_Qi (fun (r : Int32) (_ : Unit) => r = R') (fun _ t => va_P D vwCl W1 t.heap ∧ va_K D vwCl tys.1 t ∧ va_D (va_A W0 H.size) W1) (va_A W0 H.size) a) (va_A W0 H.size))
    (hn : pc + 3 = n) (k : V p l e R s m args below meth c nL D A cells slots Q ws' lv n (.int R' :: rest)) : V p l e R s m args below meth c nL D A cells slots Q ws lv pc st := by
  subst hn
  subst hw
  intro H locs ls hP hD hS hl
  have hm : isC.map (fun i => ws[i]?) = W0.map some := by rw [← hC]; exact pickW_map hbC
  have hF := va_free hD hS C.2.2.2.2.2.2.1 isC hm
  refine va_calli (hrun H locs ls hP hD hS hl) hS (fun q _ h => hF q h) hF (fun r u t H1 locs1 ht hvm hpost hB hz hk hS1 => ?_)
  subst hpost
  obtain ⟨hP1, hK1, hD1⟩ := hB
  rw [ht] at hP1
  obtain ⟨hP2, hD2⟩ := va_join (wr := pickW ws isR) hP hD isC isR hm (pickW_map hbR) hnR hdis hk hF hP1 hD1
  exact k H1 locs1 ls (hP2.sub pm rfl) (hD2.sub pm hnP (pickW_map hbP)) hS1 hl
theorem V.behind_v (C : Cx p s m args meth c cc nL own D tys A) {isC isR pm : List Nat} {W0 : va_W} {S : Type} {post : S → Prop} {W1 ws2 : S → va_W} {mc ms : Nat} {a : Array Value}
    (hC : pickW ws isC = W0) (hbC : ∀ i ∈ isC, i < ws.length) (hbR : ∀ i ∈ isR, i < ws.length) (hnR : va_nd isR = true) (hdis : ∀ i ∈ isR, i ∉ isC) (hw : ∀ u, pickW (pickW ws isR ++ W1 u) pm = ws2 u) (hbP : ∀ u, ∀ i ∈ pm, i < (pickW ws isR ++ W1 u).length) (hnP : va_nd pm = true)
    (hrun : ∀ (H : Heap) (locs : List Loc) (ls : Array Slot), va_P D vwCl ws H → va_D A ws → va_S A s.heap H locs → lv_has ls nL lv → va_Run p l e R s m args below meth c H locs cells slots mc ms (F0 m pc ls st) rest (va_Qv post (fun u t => va_P D vwCl (W1 u) t.heap ∧ va_K D vwCl tys.1 t ∧ va_D (va_A W0 H.size) (W1 u)) (va_A W0 H.size) a) (va_A W0 H.size))
    (hn : pc + 3 = n) (k : ∀ u : S, post u → V p l e R s m args below meth c nL D A (cells + mc) (slots + ms) Q (ws2 u) lv n rest) : V p l e R s m args below meth c nL D A cells slots Q ws lv pc st := by
  subst hn
  intro H locs ls hP hD hS hl
  have hm : isC.map (fun i => ws[i]?) = W0.map some := by rw [← hC]; exact pickW_map hbC
  have hF := va_free hD hS C.2.2.2.2.2.2.1 isC hm
  refine va_callv (hrun H locs ls hP hD hS hl) hS (fun q _ h => hF q h) hF (fun u t H1 locs1 ht hvm hpost hB hz hk hS1 => ?_)
  obtain ⟨hP1, hK1, hD1⟩ := hB
  rw [ht] at hP1
  obtain ⟨hP2, hD2⟩ := va_join (wr := pickW ws isR) hP hD isC isR hm (pickW_map hbR) hnR hdis hk hF hP1 hD1
  have k2 := k u hpost
  rw [← hw u] at k2
  exact k2 H1 locs1 ls (hP2.sub pm rfl) (hD2.sub pm hnP (pickW_map (hbP u))) hS1 hl
theorem V.callV_i (C : Cx p s m args meth c cc nL own D tys A) {M : MI} {rm : Room} {As : List Value} {b : Nat} {W0 : va_W} {nA idx : Nat} {W1 : va_W} {R' : Int32} {qr ci N : Nat} {T : u_T} {fs : List Value} (hM : CI l D tys M rm (.ref b :: As) W0 R' W1) (cw : cwv own idx M nA) (isC isR pm : List Nat) (hrc : W0[qr]? = some (b, .inr (ci, fs))) (hcl : vwCl[ci]? = some (M.1.cls, T, N)) (hC : pickW ws isC = W0) (hbC : ∀ i ∈ isC, i < ws.length) (hnC : va_nd isC = true) (hbR : ∀ i ∈ isR, i < ws.length) (hnR : va_nd isR = true) (hdis : ∀ i ∈ isR, i ∉ isC) (hw : pickW (pickW ws isR ++ W1) pm = ws') (hbP : ∀ i ∈ pm, i < (pickW ws isR ++ W1).length) (hnP : va_nd pm = true) (hrm : rm.cells = 0 ∧ rm.slots = 0) (hR : rm.frames + 1 ≤ R.frames ∧ 8 + (M.2.2.1 + 11) + rm.locals ≤ R.locals) (hcs : cells + 0 ≤ R.cells ∧ slots + 0 ≤ R.slots) (hnA : As.length = nA) (hst : st = As.reverse ++ .ref b :: rest) (hro : (rest.map fun v => v.category).sum ≤ 8) (hdg : decode cc pc = .ok (.invokevirtual idx, 3)) (hn : pc + 3 = n) (k : V p l e R s m args below meth c nL D A cells slots Q ws' lv n (.int R' :: rest)) : V p l e R s m args below meth c nL D A cells slots Q ws lv pc st := by
  subst hst
  refine V.behind_i C (a := ((.ref b :: As)).toArray) (isC := isC) (isR := isR) (pm := pm) hC hbC hbR hnR hdis hw hbP hnP (fun H locs ls hP hD hS hl => ?_) hn k
  obtain ⟨w1, w2, w3, w4, w5, w6⟩ := cw
  have hc2 : CallB R s args own idx M.1 M.2.1 M.2.2.1 M.2.2.2 (.code M.1 M.2.1 M.2.2.1 M.2.2.2 :: wT) rm 0 0 nA := callB_of nA C.2.2.2.2.1 (good_cons w5) rfl hrm.1 hrm.2 (C.2.2.2.2.1 _ w4) (C.2.2.2.2.1 _ w1) w6 hR
  exact va_runV ⟨C.1, C.2.1, C.2.2.1, C.2.2.2.1, C.2.2.2.2.1⟩ (hM H.size) ⟨hc2, C.2.2.2.2.1 _ w2, C.2.2.2.2.1 _ w3⟩ ⟨pre_blind, va_recv C.2.2.2.2.2.1 (hP.sub isC hC) hcl hrc, pre_at C (As := (.ref b :: As)) hP hD hS hC hbC hnC⟩ rfl hnA hl.1 rfl (lv_room hro) hdg hcs
theorem V.callV_v (C : Cx p s m args meth c cc nL own D tys A) {M : MI} {rm : Room} {As : List Value} {b : Nat} {W0 : va_W} {nA idx : Nat} {S : Type} {post : S → Prop} {W1 ws2 : S → va_W} {mc ms : Nat} {qr ci N : Nat} {T : u_T} {fs : List Value} (hM : CN l D tys M rm (.ref b :: As) W0 post W1 mc ms) (cw : cwv own idx M nA) (isC isR pm : List Nat) (hrc : W0[qr]? = some (b, .inr (ci, fs))) (hcl : vwCl[ci]? = some (M.1.cls, T, N)) (hC : pickW ws isC = W0) (hbC : ∀ i ∈ isC, i < ws.length) (hnC : va_nd isC = true) (hbR : ∀ i ∈ isR, i < ws.length) (hnR : va_nd isR = true) (hdis : ∀ i ∈ isR, i ∉ isC) (hw : ∀ u, pickW (pickW ws isR ++ W1 u) pm = ws2 u) (hbP : ∀ u, ∀ i ∈ pm, i < (pickW ws isR ++ W1 u).length) (hnP : va_nd pm = true) (hrm : rm.cells = mc ∧ rm.slots = ms) (hR : rm.frames + 1 ≤ R.frames ∧ 8 + (M.2.2.1 + 11) + rm.locals ≤ R.locals) (hcs : cells + mc ≤ R.cells ∧ slots + ms ≤ R.slots) (hnA : As.length = nA) (hst : st = As.reverse ++ .ref b :: rest) (hro : (rest.map fun v => v.category).sum ≤ 8) (hdg : decode cc pc = .ok (.invokevirtual idx, 3)) (hn : pc + 3 = n) (k : ∀ u : S, post u → V p l e R s m args below meth c nL D A (cells + mc) (slots + ms) Q (ws2 u) lv n rest) : V p l e R s m args below meth c nL D A cells slots Q ws lv pc st := by
  subst hst
  refine V.behind_v C (a := ((.ref b :: As)).toArray) (isC := isC) (isR := isR) (pm := pm) hC hbC hbR hnR hdis hw hbP hnP (fun H locs ls hP hD hS hl => ?_) hn k
  obtain ⟨w1, w2, w3, w4, w5, w6⟩ := cw
  have hc2 : CallB R s args own idx M.1 M.2.1 M.2.2.1 M.2.2.2 (.code M.1 M.2.1 M.2.2.1 M.2.2.2 :: wT) rm mc ms nA := callB_of nA C.2.2.2.2.1 (good_cons w5) rfl hrm.1 hrm.2 (C.2.2.2.2.1 _ w4) (C.2.2.2.2.1 _ w1) w6 hR
  exact va_runV ⟨C.1, C.2.1, C.2.2.1, C.2.2.2.1, C.2.2.2.2.1⟩ (hM H.size) ⟨hc2, C.2.2.2.2.1 _ w2, C.2.2.2.2.1 _ w3⟩ ⟨pre_blind, va_recv C.2.2.2.2.2.1 (hP.sub isC hC) hcl hrc, pre_at C (As := (.ref b :: As)) hP hD hS hC hbC hnC⟩ rfl hnA hl.1 rfl (lv_room hro) hdg hcs
theorem V.callK_i (C : Cx p s m args meth c cc nL own D tys A) {M : MI} {rm : Room} {As : List Value} {b : Nat} {W0 : va_W} {nA idx : Nat} {W1 : va_W} {R' : Int32} (hM : CI l D tys M rm (.ref b :: As) W0 R' W1) (cw : cwv own idx M nA) (isC isR pm : List Nat) (hrk : ∀ (H : Heap) (locs : List Loc), va_S A s.heap H locs → ∃ cell : Cell, H[b]? = some cell ∧ cell.vm.isStatics = false ∧ s.vm.findClass M.1.cls = some cell.cls) (hC : pickW ws isC = W0) (hbC : ∀ i ∈ isC, i < ws.length) (hnC : va_nd isC = true) (hbR : ∀ i ∈ isR, i < ws.length) (hnR : va_nd isR = true) (hdis : ∀ i ∈ isR, i ∉ isC) (hw : pickW (pickW ws isR ++ W1) pm = ws') (hbP : ∀ i ∈ pm, i < (pickW ws isR ++ W1).length) (hnP : va_nd pm = true) (hrm : rm.cells = 0 ∧ rm.slots = 0) (hR : rm.frames + 1 ≤ R.frames ∧ 8 + (M.2.2.1 + 11) + rm.locals ≤ R.locals) (hcs : cells + 0 ≤ R.cells ∧ slots + 0 ≤ R.slots) (hnA : As.length = nA) (hst : st = As.reverse ++ .ref b :: rest) (hro : (rest.map fun v => v.category).sum ≤ 8) (hdg : decode cc pc = .ok (.invokevirtual idx, 3)) (hn : pc + 3 = n) (k : V p l e R s m args below meth c nL D A cells slots Q ws' lv n (.int R' :: rest)) : V p l e R s m args below meth c nL D A cells slots Q ws lv pc st := by
  subst hst
  refine V.behind_i C (a := ((.ref b :: As)).toArray) (isC := isC) (isR := isR) (pm := pm) hC hbC hbR hnR hdis hw hbP hnP (fun H locs ls hP hD hS hl => ?_) hn k
  obtain ⟨w1, w2, w3, w4, w5, w6⟩ := cw
  have hc2 : CallB R s args own idx M.1 M.2.1 M.2.2.1 M.2.2.2 (.code M.1 M.2.1 M.2.2.1 M.2.2.2 :: wT) rm 0 0 nA := callB_of nA C.2.2.2.2.1 (good_cons w5) rfl hrm.1 hrm.2 (C.2.2.2.2.1 _ w4) (C.2.2.2.2.1 _ w1) w6 hR
  exact va_runV ⟨C.1, C.2.1, C.2.2.1, C.2.2.2.1, C.2.2.2.2.1⟩ (hM H.size) ⟨hc2, C.2.2.2.2.1 _ w2, C.2.2.2.2.1 _ w3⟩ ⟨pre_blind, hrk H locs hS, pre_at C (As := (.ref b :: As)) hP hD hS hC hbC hnC⟩ rfl hnA hl.1 rfl (lv_room hro) hdg hcs
theorem V.callS_i (C : Cx p s m args meth c cc nL own D tys A) {M : MI} {rm : Room} {As : List Value} {W0 : va_W} {nA idx : Nat} {W1 : va_W} {R' : Int32} (hM : CI l D tys M rm As W0 R' W1) (cw : cws own idx M nA) (isC isR pm : List Nat) (hC : pickW ws isC = W0) (hbC : ∀ i ∈ isC, i < ws.length) (hnC : va_nd isC = true) (hbR : ∀ i ∈ isR, i < ws.length) (hnR : va_nd isR = true) (hdis : ∀ i ∈ isR, i ∉ isC) (hw : pickW (pickW ws isR ++ W1) pm = ws') (hbP : ∀ i ∈ pm, i < (pickW ws isR ++ W1).length) (hnP : va_nd pm = true) (hrm : rm.cells = 0 ∧ rm.slots = 0) (hR : rm.frames + 1 ≤ R.frames ∧ 8 + (M.2.2.1 + 11) + rm.locals ≤ R.locals) (hcs : cells + 0 ≤ R.cells ∧ slots + 0 ≤ R.slots) (hnA : As.length = nA) (hst : st = As.reverse ++ rest) (hro : (rest.map fun v => v.category).sum ≤ 8) (hdg : decode cc pc = .ok (.invokestatic idx, 3)) (hn : pc + 3 = n) (k : V p l e R s m args below meth c nL D A cells slots Q ws' lv n (.int R' :: rest)) : V p l e R s m args below meth c nL D A cells slots Q ws lv pc st := by
  subst hst
  refine V.behind_i C (a := (As).toArray) (isC := isC) (isR := isR) (pm := pm) hC hbC hbR hnR hdis hw hbP hnP (fun H locs ls hP hD hS hl => ?_) hn k
  obtain ⟨w1, w2, w4, w5, w6⟩ := cw
  have hc2 : CallB R s args own idx M.1 M.2.1 M.2.2.1 M.2.2.2 (.code M.1 M.2.1 M.2.2.1 M.2.2.2 :: wT) rm 0 0 nA := callB_of nA C.2.2.2.2.1 (good_cons w5) rfl hrm.1 hrm.2 (C.2.2.2.2.1 _ w4) (C.2.2.2.2.1 _ w1) w6 hR
  exact va_runS ⟨C.1, C.2.1, C.2.2.1, C.2.2.2.1, C.2.2.2.2.1⟩ (hM H.size) ⟨hc2, C.2.2.2.2.1 _ w2⟩ ⟨pre_blind, pre_at C (As := As) hP hD hS hC hbC hnC⟩ rfl hnA hl.1 rfl (lv_room hro) hdg hcs
theorem V.callS_v (C : Cx p s m args meth c cc nL own D tys A) {M : MI} {rm : Room} {As : List Value} {W0 : va_W} {nA idx : Nat} {S : Type} {post : S → Prop} {W1 ws2 : S → va_W} {mc ms : Nat} (hM : CN l D tys M rm As W0 post W1 mc ms) (cw : cws own idx M nA) (isC isR pm : List Nat) (hC : pickW ws isC = W0) (hbC : ∀ i ∈ isC, i < ws.length) (hnC : va_nd isC = true) (hbR : ∀ i ∈ isR, i < ws.length) (hnR : va_nd isR = true) (hdis : ∀ i ∈ isR, i ∉ isC) (hw : ∀ u, pickW (pickW ws isR ++ W1 u) pm = ws2 u) (hbP : ∀ u, ∀ i ∈ pm, i < (pickW ws isR ++ W1 u).length) (hnP : va_nd pm = true) (hrm : rm.cells = mc ∧ rm.slots = ms) (hR : rm.frames + 1 ≤ R.frames ∧ 8 + (M.2.2.1 + 11) + rm.locals ≤ R.locals) (hcs : cells + mc ≤ R.cells ∧ slots + ms ≤ R.slots) (hnA : As.length = nA) (hst : st = As.reverse ++ rest) (hro : (rest.map fun v => v.category).sum ≤ 8) (hdg : decode cc pc = .ok (.invokestatic idx, 3)) (hn : pc + 3 = n) (k : ∀ u : S, post u → V p l e R s m args below meth c nL D A (cells + mc) (slots + ms) Q (ws2 u) lv n rest) : V p l e R s m args below meth c nL D A cells slots Q ws lv pc st := by
  subst hst
  refine V.behind_v C (a := (As).toArray) (isC := isC) (isR := isR) (pm := pm) hC hbC hbR hnR hdis hw hbP hnP (fun H locs ls hP hD hS hl => ?_) hn k
  obtain ⟨w1, w2, w4, w5, w6⟩ := cw
  have hc2 : CallB R s args own idx M.1 M.2.1 M.2.2.1 M.2.2.2 (.code M.1 M.2.1 M.2.2.1 M.2.2.2 :: wT) rm mc ms nA := callB_of nA C.2.2.2.2.1 (good_cons w5) rfl hrm.1 hrm.2 (C.2.2.2.2.1 _ w4) (C.2.2.2.2.1 _ w1) w6 hR
  exact va_runS ⟨C.1, C.2.1, C.2.2.1, C.2.2.2.1, C.2.2.2.2.1⟩ (hM H.size) ⟨hc2, C.2.2.2.2.1 _ w2⟩ ⟨pre_blind, pre_at C (As := As) hP hD hS hC hbC hnC⟩ rfl hnA hl.1 rfl (lv_room hro) hdg hcs
theorem V.callSN_i (C : Cx p s m args meth c cc nL own D tys A) {M : MI} {rm : Room} {As : List Value} {host : String} {W0 : va_W} {nA idx : Nat} {W1 : va_W} {R' : Int32} (hM : CI l D tys M rm As W0 R' W1) (cw : cwsN own idx M nA host) (isC isR pm : List Nat) (hC : pickW ws isC = W0) (hbC : ∀ i ∈ isC, i < ws.length) (hnC : va_nd isC = true) (hbR : ∀ i ∈ isR, i < ws.length) (hnR : va_nd isR = true) (hdis : ∀ i ∈ isR, i ∉ isC) (hw : pickW (pickW ws isR ++ W1) pm = ws') (hbP : ∀ i ∈ pm, i < (pickW ws isR ++ W1).length) (hnP : va_nd pm = true) (hrm : rm.cells = 0 ∧ rm.slots = 0) (hR : rm.frames + 1 ≤ R.frames ∧ 8 + (M.2.2.1 + 11) + rm.locals ≤ R.locals) (hcs : cells + 0 ≤ R.cells ∧ slots + 0 ≤ R.slots) (hnA : As.length = nA) (hst : st = As.reverse ++ rest) (hro : (rest.map fun v => v.category).sum ≤ 8) (hdg : decode cc pc = .ok (.invokestatic idx, 3)) (hn : pc + 3 = n) (k : V p l e R s m args below meth c nL D A cells slots Q ws' lv n (.int R' :: rest)) : V p l e R s m args below meth c nL D A cells slots Q ws lv pc st := by
  subst hst
  refine V.behind_i C (a := (As).toArray) (isC := isC) (isR := isR) (pm := pm) hC hbC hbR hnR hdis hw hbP hnP (fun H locs ls hP hD hS hl => ?_) hn k
  obtain ⟨w1, w2, w4, w5, w6⟩ := cw
  have hc2 : va_CN R s args own idx M.1 host M.2.1 M.2.2.1 M.2.2.2 (.code M.1 M.2.1 M.2.2.1 M.2.2.2 :: wT) rm 0 0 nA := va_cnB nA C.2.2.2.2.1 (good_cons w5) rfl hrm.1 hrm.2 (C.2.2.2.2.2.2.2.2.1 _ w1) (C.2.2.2.2.1 _ w4) w6 hR
  exact va_runSN ⟨C.1, C.2.1, C.2.2.1, C.2.2.2.1, C.2.2.2.2.1⟩ (hM H.size) ⟨hc2, C.2.2.2.2.1 _ w2, trivial⟩ ⟨pre_blind, pre_at C (As := As) hP hD hS hC hbC hnC⟩ rfl hnA hl.1 rfl (lv_room hro) hdg hcs
theorem V.callI_v (C : Cx p s m args meth c cc nL own D tys A) {M : MI} {rm : Room} {As : List Value} {b : Nat} {W0 : va_W} {nA idx : Nat} {S : Type} {post : S → Prop} {W1 ws2 : S → va_W} {mc ms : Nat} (hM : CN l D tys M rm (.ref b :: As) W0 post W1 mc ms) (cw : cwi own idx M nA) (isC isR pm : List Nat) (hret : M.2.2.2 = none) (hC : pickW ws isC = W0) (hbC : ∀ i ∈ isC, i < ws.length) (hnC : va_nd isC = true) (hbR : ∀ i ∈ isR, i < ws.length) (hnR : va_nd isR = true) (hdis : ∀ i ∈ isR, i ∉ isC) (hw : ∀ u, pickW (pickW ws isR ++ W1 u) pm = ws2 u) (hbP : ∀ u, ∀ i ∈ pm, i < (pickW ws isR ++ W1 u).length) (hnP : va_nd pm = true) (hrm : rm.cells = mc ∧ rm.slots = ms) (hR : rm.frames + 1 ≤ R.frames ∧ 8 + (M.2.2.1 + 11) + rm.locals ≤ R.locals) (hcs : cells + mc ≤ R.cells ∧ slots + ms ≤ R.slots) (hnA : As.length = nA) (hst : st = As.reverse ++ .ref b :: rest) (hro : (rest.map fun v => v.category).sum ≤ 8) (hdg : decode cc pc = .ok (.invokespecial idx, 3)) (hn : pc + 3 = n) (k : ∀ u : S, post u → V p l e R s m args below meth c nL D A (cells + mc) (slots + ms) Q (ws2 u) lv n rest) : V p l e R s m args below meth c nL D A cells slots Q ws lv pc st := by
  subst hst
  refine V.behind_v C (a := ((.ref b :: As)).toArray) (isC := isC) (isR := isR) (pm := pm) hC hbC hbR hnR hdis hw hbP hnP (fun H locs ls hP hD hS hl => ?_) hn k
  obtain ⟨y9, b9, n9, r9⟩ := M
  cases hret
  obtain ⟨w1, w2, w4, w5, w7, w6⟩ := cw
  have hc2 : CallB R s args own idx y9 b9 n9 none (.code y9 b9 n9 none :: wT) rm mc ms nA := callB_of nA C.2.2.2.2.1 (good_cons w5) rfl hrm.1 hrm.2 (C.2.2.2.2.1 _ w4) (C.2.2.2.2.1 _ w1) w6 hR
  exact va_runI ⟨C.1, C.2.1, C.2.2.1, C.2.2.2.1, C.2.2.2.2.1⟩ (hM H.size) ⟨hc2, w7, C.2.2.2.2.1 _ w2⟩ ⟨pre_blind, pre_at C (As := (.ref b :: As)) hP hD hS hC hbC hnC⟩ rfl hnA hl.1 rfl (lv_room hro) hdg hcs
theorem V.callIN_v (C : Cx p s m args meth c cc nL own D tys A) {M : MI} {rm : Room} {As : List Value} {b : Nat} {host : String} {W0 : va_W} {nA idx : Nat} {S : Type} {post : S → Prop} {W1 ws2 : S → va_W} {mc ms : Nat} (hM : CN l D tys M rm (.ref b :: As) W0 post W1 mc ms) (cw : cwiN own idx M nA host) (isC isR pm : List Nat) (hret : M.2.2.2 = none) (hC : pickW ws isC = W0) (hbC : ∀ i ∈ isC, i < ws.length) (hnC : va_nd isC = true) (hbR : ∀ i ∈ isR, i < ws.length) (hnR : va_nd isR = true) (hdis : ∀ i ∈ isR, i ∉ isC) (hw : ∀ u, pickW (pickW ws isR ++ W1 u) pm = ws2 u) (hbP : ∀ u, ∀ i ∈ pm, i < (pickW ws isR ++ W1 u).length) (hnP : va_nd pm = true) (hrm : rm.cells = mc ∧ rm.slots = ms) (hR : rm.frames + 1 ≤ R.frames ∧ 8 + (M.2.2.1 + 11) + rm.locals ≤ R.locals) (hcs : cells + mc ≤ R.cells ∧ slots + ms ≤ R.slots) (hnA : As.length = nA) (hst : st = As.reverse ++ .ref b :: rest) (hro : (rest.map fun v => v.category).sum ≤ 8) (hdg : decode cc pc = .ok (.invokespecial idx, 3)) (hn : pc + 3 = n) (k : ∀ u : S, post u → V p l e R s m args below meth c nL D A (cells + mc) (slots + ms) Q (ws2 u) lv n rest) : V p l e R s m args below meth c nL D A cells slots Q ws lv pc st := by
  subst hst
  refine V.behind_v C (a := ((.ref b :: As)).toArray) (isC := isC) (isR := isR) (pm := pm) hC hbC hbR hnR hdis hw hbP hnP (fun H locs ls hP hD hS hl => ?_) hn k
  obtain ⟨y9, b9, n9, r9⟩ := M
  cases hret
  obtain ⟨w1, w2, w4, w5, w7, w6⟩ := cw
  have hc2 : va_CN R s args own idx y9 host b9 n9 none (.code y9 b9 n9 none :: wT) rm mc ms nA := va_cnB nA C.2.2.2.2.1 (good_cons w5) rfl hrm.1 hrm.2 (C.2.2.2.2.2.2.2.2.1 _ w1) (C.2.2.2.2.1 _ w4) w6 hR
  exact va_runIN ⟨C.1, C.2.1, C.2.2.1, C.2.2.2.1, C.2.2.2.2.1⟩ (hM H.size) ⟨hc2, w7, C.2.2.2.2.1 _ w2⟩ ⟨pre_blind, pre_at C (As := (.ref b :: As)) hP hD hS hC hbC hnC⟩ rfl hnA hl.1 rfl (lv_room hro) hdg hcs
theorem V.iret {W0 W1 : va_W} {R' v : Int32} (C : Cx p s m args meth c cc nL own D tys (va_A W0 s.heap.size)) (hr : meth.sig.returnType = some .int) (hdg : decode cc pc = .ok (.ireturn, 1)) (hv : v = R') (hw : ws = W1) : V p l e R s m args below meth c nL D (va_A W0 s.heap.size) cells slots (MQ below (va_Qi (fun (r : Int32) (_ : Unit) => r = R') (fun _ t => va_P D vwCl W1 t.heap ∧ va_K D vwCl tys.1 t ∧ va_D (va_A W0 s.heap.size) W1) (va_A W0 s.heap.size)) args s cells slots (va_A W0 s.heap.size)) ws lv pc [.int v] := by
  subst hv
  subst hw
  intro H locs ls hP hD hS hl
  exact W.iret C.1 C.2.1 hr (fun t ht hW => ⟨⟨_, (), rfl, rfl, by rw [ht]; exact hP, va_K.moved hW.alike C.2.2.2.2.2.1, hD⟩, hS.F ht⟩) hS.2.2 hdg C.2.2.2.2.2.2.2.1
theorem V.zret {W0 W1 : va_W} {R' v : Int32} (C : Cx p s m args meth c cc nL own D tys (va_A W0 s.heap.size)) {ty : FieldType} (hr : meth.sig.returnType = some ty) (hnar : narrow ty (.int R') = .int R') (hdg : decode cc pc = .ok (.ireturn, 1)) (hv : v = R') (hw : ws = W1) : V p l e R s m args below meth c nL D (va_A W0 s.heap.size) cells slots (MQ below (va_Qi (fun (r : Int32) (_ : Unit) => r = R') (fun _ t => va_P D vwCl W1 t.heap ∧ va_K D vwCl tys.1 t ∧ va_D (va_A W0 s.heap.size) W1) (va_A W0 s.heap.size)) args s cells slots (va_A W0 s.heap.size)) ws lv pc [.int v] := by
  subst hv
  subst hw
  intro H locs ls hP hD hS hl
  exact W.zret C.1 C.2.1 hr hnar (fun t ht hW => ⟨⟨_, (), rfl, rfl, by rw [ht]; exact hP, va_K.moved hW.alike C.2.2.2.2.2.1, hD⟩, hS.F ht⟩) hS.2.2 hdg C.2.2.2.2.2.2.2.1
theorem V.vret {W0 : va_W} {S : Type} {post : S → Prop} {W1 : S → va_W} (C : Cx p s m args meth c cc nL own D tys (va_A W0 s.heap.size)) (hr : meth.sig.returnType = none) (hdg : decode cc pc = .ok (.return_, 1)) (u : S) (hu : post u) (hw : ws = W1 u) : V p l e R s m args below meth c nL D (va_A W0 s.heap.size) cells slots (MQ below (va_Qv post (fun u t => va_P D vwCl (W1 u) t.heap ∧ va_K D vwCl tys.1 t ∧ va_D (va_A W0 s.heap.size) (W1 u)) (va_A W0 s.heap.size)) args s cells slots (va_A W0 s.heap.size)) ws lv pc [] := by
  subst hw
  intro H locs ls hP hD hS hl
  exact W.vret C.1 C.2.1 hr (fun t ht hW => ⟨⟨u, rfl, hu, by rw [ht]; exact hP, va_K.moved hW.alike C.2.2.2.2.2.1, hD⟩, hS.F ht⟩) hS.2.2 hdg C.2.2.2.2.2.2.2.1
end VR
/-- a contract out of a walk -/
theorem CI.of {l : Launch} {D : va_G} {tys : TyS} {y : MethodName} {cc : ByteArray} {nL : Nat} {ret : Option FieldType} {rm : Room} {As : List Value} {W0 : va_W} {R' : Int32} {W1 : va_W} (hy : plainName y.cls = true) (hn : (lg_sl As).length ≤ nL)
    (body : ∀ (p : Program) (e : Env) (s : State) (m : MethodId) (args : Array Value) (below : List Frame) (meth : Method) (c : Code), Cx p s m args meth c cc nL y.cls D tys (va_A W0 s.heap.size) → meth.sig.returnType = ret → V p l e rm s m args below meth c nL D (va_A W0 s.heap.size) 0 0 (MQ below (va_Qi (fun (r : Int32) (_ : Unit) => r = R') (fun _ t => va_P D vwCl W1 t.heap ∧ va_K D vwCl tys.1 t ∧ va_D (va_A W0 s.heap.size) W1) (va_A W0 s.heap.size)) args s 0 0 (va_A W0 s.heap.size)) W0 (lv_args 0 As) 0 []) :
    CI l D tys (y, cc, nL, ret) rm As W0 R' W1 := by
  intro sz
  refine Met.ofW (cc := cc) (maxL := nL) (ret := ret) hy rfl ?_
  intro p e s m args below meth c s₁ B hml hv
  obtain ⟨rfl, hsz, hP, hK, hD0, hF⟩ := hv
  subst hsz
  have hts := atoms_spec (ws := (.code y cc nL ret :: wT)) B.pre
  have hl := lv_entry As (n := nL) hn
  rw [lg_entry_eq]
  exact body p e s m As.toArray below meth c ⟨B.exec, B.bytes, hml, findClass_of_methodNamed B.named, fun w h => hts w (List.mem_cons_of_mem _ h), hK, fun q h => Or.inr h, B.notSynchronized, hF⟩ B.returns s.heap [] _ hP hD0.self va_S.rf hl
theorem CN.of {l : Launch} {D : va_G} {tys : TyS} {y : MethodName} {cc : ByteArray} {nL : Nat} {ret : Option FieldType} {rm : Room} {As : List Value} {W0 : va_W} {S : Type} {post : S → Prop} {W1 : S → va_W} {mc ms : Nat} (hy : plainName y.cls = true) (hn : (lg_sl As).length ≤ nL)
    (body : ∀ (p : Program) (e : Env) (s : State) (m : MethodId) (args : Array Value) (below : List Frame) (meth : Method) (c : Code), Cx p s m args meth c cc nL y.cls D tys (va_A W0 s.heap.size) → meth.sig.returnType = ret → meth.name = y.name → V p l e rm s m args below meth c nL D (va_A W0 s.heap.size) 0 0 (MQ below (va_Qv post (fun u t => va_P D vwCl (W1 u) t.heap ∧ va_K D vwCl tys.1 t ∧ va_D (va_A W0 s.heap.size) (W1 u)) (va_A W0 s.heap.size)) args s mc ms (va_A W0 s.heap.size)) W0 (lv_args 0 As) 0 []) :
    CN l D tys (y, cc, nL, ret) rm As W0 post W1 mc ms := by
  intro sz
  refine Met.ofW (cc := cc) (maxL := nL) (ret := ret) hy rfl ?_
  intro p e s m args below meth c s₁ B hml hv
  obtain ⟨rfl, hsz, hP, hK, hD0, hF⟩ := hv
  subst hsz
  have hts := atoms_spec (ws := (.code y cc nL ret :: wT)) B.pre
  have hl := lv_entry As (n := nL) hn
  rw [lg_entry_eq]
  exact body p e s m As.toArray below meth c ⟨B.exec, B.bytes, hml, findClass_of_methodNamed B.named, fun w h => hts w (List.mem_cons_of_mem _ h), hK, fun q h => Or.inr h, B.notSynchronized, hF⟩ B.returns (name_of_methodNamed B.named B.method).1 s.heap [] _ hP hD0.self va_S.rf hl
/-- a contract that is spoken of otherwise -/
theorem CI.to {l : Launch} {D : va_G} {tys : TyS} {M : MI} {rm : Room} {As : List Value} {W0 W1 W2 : va_W} {R1 R2 : Int32} (h : CI l D tys M rm As W0 R1 W1) (hR : R1 = R2) (hW : W1 = W2) : CI l D tys M rm As W0 R2 W2 := by subst hR; subst hW; exact h
end
section
abbrev y_T_init : MethodName := ⟨"FrameTables$Table", "<init>", "()V"⟩
abbrev m_T_init : MethodName × ByteArray × Nat × Option FieldType := (y_T_init, prog_5_method_1_code, 1, none)
theorem mi_T_init : .code y_T_init prog_5_method_1_code 1 none ∈ wT := wT_m 65 (by decide +kernel) rfl
theorem d_T_init_0 : decode prog_5_method_1_code 0 = .ok (.aload_n 0, 1) := by decide +kernel
theorem d_T_init_1 : decode prog_5_method_1_code 1 = .ok (.invokespecial 3, 3) := by decide +kernel
theorem d_T_init_4 : decode prog_5_method_1_code 4 = .ok (.aload_n 0, 1) := by decide +kernel
theorem d_T_init_5 : decode prog_5_method_1_code 5 = .ok (.bipush 41, 2) := by decide +kernel
theorem d_T_init_7 : decode prog_5_method_1_code 7 = .ok (.newarray .int, 2) := by decide +kernel
theorem d_T_init_9 : decode prog_5_method_1_code 9 = .ok (.putfield 9, 3) := by decide +kernel
theorem d_T_init_12 : decode prog_5_method_1_code 12 = .ok (.aload_n 0, 1) := by decide +kernel
theorem d_T_init_13 : decode prog_5_method_1_code 13 = .ok (.bipush 41, 2) := by decide +kernel
theorem d_T_init_15 : decode prog_5_method_1_code 15 = .ok (.newarray .int, 2) := by decide +kernel
theorem d_T_init_17 : decode prog_5_method_1_code 17 = .ok (.putfield 15, 3) := by decide +kernel
theorem d_T_init_20 : decode prog_5_method_1_code 20 = .ok (.aload_n 0, 1) := by decide +kernel
theorem d_T_init_21 : decode prog_5_method_1_code 21 = .ok (.bipush 41, 2) := by decide +kernel
theorem d_T_init_23 : decode prog_5_method_1_code 23 = .ok (.newarray .int, 2) := by decide +kernel
theorem d_T_init_25 : decode prog_5_method_1_code 25 = .ok (.putfield 18, 3) := by decide +kernel
theorem d_T_init_28 : decode prog_5_method_1_code 28 = .ok (.aload_n 0, 1) := by decide +kernel
theorem d_T_init_29 : decode prog_5_method_1_code 29 = .ok (.bipush 41, 2) := by decide +kernel
theorem d_T_init_31 : decode prog_5_method_1_code 31 = .ok (.newarray .int, 2) := by decide +kernel
theorem d_T_init_33 : decode prog_5_method_1_code 33 = .ok (.putfield 21, 3) := by decide +kernel
theorem d_T_init_36 : decode prog_5_method_1_code 36 = .ok (.aload_n 0, 1) := by decide +kernel
theorem d_T_init_37 : decode prog_5_method_1_code 37 = .ok (.bipush 41, 2) := by decide +kernel
theorem d_T_init_39 : decode prog_5_method_1_code 39 = .ok (.newarray .int, 2) := by decide +kernel
theorem d_T_init_41 : decode prog_5_method_1_code 41 = .ok (.putfield 24, 3) := by decide +kernel
theorem d_T_init_44 : decode prog_5_method_1_code 44 = .ok (.aload_n 0, 1) := by decide +kernel
theorem d_T_init_45 : decode prog_5_method_1_code 45 = .ok (.sipush 861, 3) := by decide +kernel
theorem d_T_init_48 : decode prog_5_method_1_code 48 = .ok (.newarray .int, 2) := by decide +kernel
theorem d_T_init_50 : decode prog_5_method_1_code 50 = .ok (.putfield 27, 3) := by decide +kernel
theorem d_T_init_53 : decode prog_5_method_1_code 53 = .ok (.aload_n 0, 1) := by decide +kernel
theorem d_T_init_54 : decode prog_5_method_1_code 54 = .ok (.iconst 0, 1) := by decide +kernel
theorem d_T_init_55 : decode prog_5_method_1_code 55 = .ok (.putfield 30, 3) := by decide +kernel
theorem d_T_init_58 : decode prog_5_method_1_code 58 = .ok (.return_, 1) := by decide +kernel
abbrev y_S_init : MethodName := ⟨"FrameTables$Spans", "<init>", "()V"⟩
abbrev m_S_init : MethodName × ByteArray × Nat × Option FieldType := (y_S_init, prog_4_method_1_code, 2, none)
theorem mi_S_init : .code y_S_init prog_4_method_1_code 2 none ∈ wT := wT_m 94 (by decide +kernel) rfl
theorem d_S_init_0 : decode prog_4_method_1_code 0 = .ok (.aload_n 0, 1) := by decide +kernel
theorem d_S_init_1 : decode prog_4_method_1_code 1 = .ok (.invokespecial 3, 3) := by decide +kernel
theorem d_S_init_4 : decode prog_4_method_1_code 4 = .ok (.aload_n 0, 1) := by decide +kernel
theorem d_S_init_5 : decode prog_4_method_1_code 5 = .ok (.iconst 4, 1) := by decide +kernel
theorem d_S_init_6 : decode prog_4_method_1_code 6 = .ok (.newarray .int, 2) := by decide +kernel
theorem d_S_init_8 : decode prog_4_method_1_code 8 = .ok (.putfield 9, 3) := by decide +kernel
theorem d_S_init_11 : decode prog_4_method_1_code 11 = .ok (.aload_n 0, 1) := by decide +kernel
theorem d_S_init_12 : decode prog_4_method_1_code 12 = .ok (.iconst 4, 1) := by decide +kernel
theorem d_S_init_13 : decode prog_4_method_1_code 13 = .ok (.newarray .int, 2) := by decide +kernel
theorem d_S_init_15 : decode prog_4_method_1_code 15 = .ok (.putfield 15, 3) := by decide +kernel
theorem d_S_init_18 : decode prog_4_method_1_code 18 = .ok (.iconst 0, 1) := by decide +kernel
theorem d_S_init_19 : decode prog_4_method_1_code 19 = .ok (.istore_n 1, 1) := by decide +kernel
theorem d_S_init_20 : decode prog_4_method_1_code 20 = .ok (.iload_n 1, 1) := by decide +kernel
theorem d_S_init_21 : decode prog_4_method_1_code 21 = .ok (.iconst 4, 1) := by decide +kernel
theorem d_S_init_22 : decode prog_4_method_1_code 22 = .ok (.if_icmp .ge 38, 3) := by decide +kernel
theorem d_S_init_25 : decode prog_4_method_1_code 25 = .ok (.aload_n 0, 1) := by decide +kernel
theorem d_S_init_26 : decode prog_4_method_1_code 26 = .ok (.getfield 9, 3) := by decide +kernel
theorem d_S_init_29 : decode prog_4_method_1_code 29 = .ok (.iload_n 1, 1) := by decide +kernel
theorem d_S_init_30 : decode prog_4_method_1_code 30 = .ok (.iload_n 1, 1) := by decide +kernel
theorem d_S_init_31 : decode prog_4_method_1_code 31 = .ok (.sipush 512, 3) := by decide +kernel
theorem d_S_init_34 : decode prog_4_method_1_code 34 = .ok (.imul, 1) := by decide +kernel
theorem d_S_init_35 : decode prog_4_method_1_code 35 = .ok (.iastore, 1) := by decide +kernel
theorem d_S_init_36 : decode prog_4_method_1_code 36 = .ok (.aload_n 0, 1) := by decide +kernel
theorem d_S_init_37 : decode prog_4_method_1_code 37 = .ok (.getfield 15, 3) := by decide +kernel
theorem d_S_init_40 : decode prog_4_method_1_code 40 = .ok (.iload_n 1, 1) := by decide +kernel
theorem d_S_init_41 : decode prog_4_method_1_code 41 = .ok (.aload_n 0, 1) := by decide +kernel
theorem d_S_init_42 : decode prog_4_method_1_code 42 = .ok (.getfield 9, 3) := by decide +kernel
theorem d_S_init_45 : decode prog_4_method_1_code 45 = .ok (.iload_n 1, 1) := by decide +kernel
theorem d_S_init_46 : decode prog_4_method_1_code 46 = .ok (.iaload, 1) := by decide +kernel
theorem d_S_init_47 : decode prog_4_method_1_code 47 = .ok (.sipush 512, 3) := by decide +kernel
theorem d_S_init_50 : decode prog_4_method_1_code 50 = .ok (.iadd, 1) := by decide +kernel
theorem d_S_init_51 : decode prog_4_method_1_code 51 = .ok (.iconst 1, 1) := by decide +kernel
theorem d_S_init_52 : decode prog_4_method_1_code 52 = .ok (.isub, 1) := by decide +kernel
theorem d_S_init_53 : decode prog_4_method_1_code 53 = .ok (.iastore, 1) := by decide +kernel
theorem d_S_init_54 : decode prog_4_method_1_code 54 = .ok (.iinc 1 1, 3) := by decide +kernel
theorem d_S_init_57 : decode prog_4_method_1_code 57 = .ok (.goto (-37), 3) := by decide +kernel
theorem d_S_init_60 : decode prog_4_method_1_code 60 = .ok (.return_, 1) := by decide +kernel
abbrev y_X_init : MethodName := ⟨"FrameTables$Text", "<init>", "()V"⟩
abbrev m_X_init : MethodName × ByteArray × Nat × Option FieldType := (y_X_init, prog_6_method_1_code, 1, none)
theorem mi_X_init : .code y_X_init prog_6_method_1_code 1 none ∈ wT := wT_m 107 (by decide +kernel) rfl
theorem d_X_init_0 : decode prog_6_method_1_code 0 = .ok (.aload_n 0, 1) := by decide +kernel
theorem d_X_init_1 : decode prog_6_method_1_code 1 = .ok (.invokespecial 3, 3) := by decide +kernel
theorem d_X_init_4 : decode prog_6_method_1_code 4 = .ok (.aload_n 0, 1) := by decide +kernel
theorem d_X_init_5 : decode prog_6_method_1_code 5 = .ok (.sipush 2000, 3) := by decide +kernel
theorem d_X_init_8 : decode prog_6_method_1_code 8 = .ok (.newarray .char, 2) := by decide +kernel
theorem d_X_init_10 : decode prog_6_method_1_code 10 = .ok (.putfield 9, 3) := by decide +kernel
theorem d_X_init_13 : decode prog_6_method_1_code 13 = .ok (.aload_n 0, 1) := by decide +kernel
theorem d_X_init_14 : decode prog_6_method_1_code 14 = .ok (.iconst 0, 1) := by decide +kernel
theorem d_X_init_15 : decode prog_6_method_1_code 15 = .ok (.putfield 15, 3) := by decide +kernel
theorem d_X_init_18 : decode prog_6_method_1_code 18 = .ok (.aload_n 0, 1) := by decide +kernel
theorem d_X_init_19 : decode prog_6_method_1_code 19 = .ok (.iconst 0, 1) := by decide +kernel
theorem d_X_init_20 : decode prog_6_method_1_code 20 = .ok (.putfield 19, 3) := by decide +kernel
theorem d_X_init_23 : decode prog_6_method_1_code 23 = .ok (.return_, 1) := by decide +kernel
abbrev y_T_isFull : MethodName := ⟨"FrameTables$Table", "isFull", "()Z"⟩
abbrev m_T_isFull : MethodName × ByteArray × Nat × Option FieldType := (y_T_isFull, prog_5_method_4_code, 1, some .boolean)
theorem mi_T_isFull : .code y_T_isFull prog_5_method_4_code 1 (some .boolean) ∈ wT := wT_m 211 (by decide +kernel) rfl
theorem d_T_isFull_0 : decode prog_5_method_4_code 0 = .ok (.aload_n 0, 1) := by decide +kernel
theorem d_T_isFull_1 : decode prog_5_method_4_code 1 = .ok (.getfield 30, 3) := by decide +kernel
theorem d_T_isFull_4 : decode prog_5_method_4_code 4 = .ok (.bipush 40, 2) := by decide +kernel
theorem d_T_isFull_6 : decode prog_5_method_4_code 6 = .ok (.if_icmp .lt 7, 3) := by decide +kernel
theorem d_T_isFull_9 : decode prog_5_method_4_code 9 = .ok (.iconst 1, 1) := by decide +kernel
theorem d_T_isFull_10 : decode prog_5_method_4_code 10 = .ok (.goto 4, 3) := by decide +kernel
theorem d_T_isFull_13 : decode prog_5_method_4_code 13 = .ok (.iconst 0, 1) := by decide +kernel
theorem d_T_isFull_14 : decode prog_5_method_4_code 14 = .ok (.ireturn, 1) := by decide +kernel
abbrev y_T_append : MethodName := ⟨"FrameTables$Table", "append", "(IIII)I"⟩
abbrev m_T_append : MethodName × ByteArray × Nat × Option FieldType := (y_T_append, prog_5_method_6_code, 6, some .int)
theorem mi_T_append : .code y_T_append prog_5_method_6_code 6 (some .int) ∈ wT := wT_m 215 (by decide +kernel) rfl
theorem d_T_append_0 : decode prog_5_method_6_code 0 = .ok (.aload_n 0, 1) := by decide +kernel
theorem d_T_append_1 : decode prog_5_method_6_code 1 = .ok (.invokevirtual 34, 3) := by decide +kernel
theorem d_T_append_4 : decode prog_5_method_6_code 4 = .ok (.ifCond .eq 5, 3) := by decide +kernel
theorem d_T_append_7 : decode prog_5_method_6_code 7 = .ok (.iconst (-1), 1) := by decide +kernel
theorem d_T_append_8 : decode prog_5_method_6_code 8 = .ok (.ireturn, 1) := by decide +kernel
theorem d_T_append_9 : decode prog_5_method_6_code 9 = .ok (.aload_n 0, 1) := by decide +kernel
theorem d_T_append_10 : decode prog_5_method_6_code 10 = .ok (.dup, 1) := by decide +kernel
theorem d_T_append_11 : decode prog_5_method_6_code 11 = .ok (.getfield 30, 3) := by decide +kernel
theorem d_T_append_14 : decode prog_5_method_6_code 14 = .ok (.iconst 1, 1) := by decide +kernel
theorem d_T_append_15 : decode prog_5_method_6_code 15 = .ok (.iadd, 1) := by decide +kernel
theorem d_T_append_16 : decode prog_5_method_6_code 16 = .ok (.putfield 30, 3) := by decide +kernel
theorem d_T_append_19 : decode prog_5_method_6_code 19 = .ok (.aload_n 0, 1) := by decide +kernel
theorem d_T_append_20 : decode prog_5_method_6_code 20 = .ok (.getfield 9, 3) := by decide +kernel
theorem d_T_append_23 : decode prog_5_method_6_code 23 = .ok (.aload_n 0, 1) := by decide +kernel
theorem d_T_append_24 : decode prog_5_method_6_code 24 = .ok (.getfield 30, 3) := by decide +kernel
theorem d_T_append_27 : decode prog_5_method_6_code 27 = .ok (.iload_n 1, 1) := by decide +kernel
theorem d_T_append_28 : decode prog_5_method_6_code 28 = .ok (.iastore, 1) := by decide +kernel
theorem d_T_append_29 : decode prog_5_method_6_code 29 = .ok (.aload_n 0, 1) := by decide +kernel
theorem d_T_append_30 : decode prog_5_method_6_code 30 = .ok (.getfield 15, 3) := by decide +kernel
theorem d_T_append_33 : decode prog_5_method_6_code 33 = .ok (.aload_n 0, 1) := by decide +kernel
theorem d_T_append_34 : decode prog_5_method_6_code 34 = .ok (.getfield 30, 3) := by decide +kernel
theorem d_T_append_37 : decode prog_5_method_6_code 37 = .ok (.iload_n 2, 1) := by decide +kernel
theorem d_T_append_38 : decode prog_5_method_6_code 38 = .ok (.iastore, 1) := by decide +kernel
theorem d_T_append_39 : decode prog_5_method_6_code 39 = .ok (.aload_n 0, 1) := by decide +kernel
theorem d_T_append_40 : decode prog_5_method_6_code 40 = .ok (.getfield 18, 3) := by decide +kernel
theorem d_T_append_43 : decode prog_5_method_6_code 43 = .ok (.aload_n 0, 1) := by decide +kernel
theorem d_T_append_44 : decode prog_5_method_6_code 44 = .ok (.getfield 30, 3) := by decide +kernel
theorem d_T_append_47 : decode prog_5_method_6_code 47 = .ok (.iload_n 3, 1) := by decide +kernel
theorem d_T_append_48 : decode prog_5_method_6_code 48 = .ok (.iastore, 1) := by decide +kernel
theorem d_T_append_49 : decode prog_5_method_6_code 49 = .ok (.aload_n 0, 1) := by decide +kernel
theorem d_T_append_50 : decode prog_5_method_6_code 50 = .ok (.getfield 21, 3) := by decide +kernel
theorem d_T_append_53 : decode prog_5_method_6_code 53 = .ok (.aload_n 0, 1) := by decide +kernel
theorem d_T_append_54 : decode prog_5_method_6_code 54 = .ok (.getfield 30, 3) := by decide +kernel
theorem d_T_append_57 : decode prog_5_method_6_code 57 = .ok (.iload 4, 2) := by decide +kernel
theorem d_T_append_59 : decode prog_5_method_6_code 59 = .ok (.iastore, 1) := by decide +kernel
theorem d_T_append_60 : decode prog_5_method_6_code 60 = .ok (.aload_n 0, 1) := by decide +kernel
theorem d_T_append_61 : decode prog_5_method_6_code 61 = .ok (.getfield 24, 3) := by decide +kernel
theorem d_T_append_64 : decode prog_5_method_6_code 64 = .ok (.aload_n 0, 1) := by decide +kernel
theorem d_T_append_65 : decode prog_5_method_6_code 65 = .ok (.getfield 30, 3) := by decide +kernel
theorem d_T_append_68 : decode prog_5_method_6_code 68 = .ok (.iconst 0, 1) := by decide +kernel
theorem d_T_append_69 : decode prog_5_method_6_code 69 = .ok (.iastore, 1) := by decide +kernel
theorem d_T_append_70 : decode prog_5_method_6_code 70 = .ok (.iconst 1, 1) := by decide +kernel
theorem d_T_append_71 : decode prog_5_method_6_code 71 = .ok (.istore 5, 2) := by decide +kernel
theorem d_T_append_73 : decode prog_5_method_6_code 73 = .ok (.iload 5, 2) := by decide +kernel
theorem d_T_append_75 : decode prog_5_method_6_code 75 = .ok (.bipush 20, 2) := by decide +kernel
theorem d_T_append_77 : decode prog_5_method_6_code 77 = .ok (.if_icmp .gt 20, 3) := by decide +kernel
theorem d_T_append_80 : decode prog_5_method_6_code 80 = .ok (.aload_n 0, 1) := by decide +kernel
theorem d_T_append_81 : decode prog_5_method_6_code 81 = .ok (.aload_n 0, 1) := by decide +kernel
theorem d_T_append_82 : decode prog_5_method_6_code 82 = .ok (.getfield 30, 3) := by decide +kernel
theorem d_T_append_85 : decode prog_5_method_6_code 85 = .ok (.iload 5, 2) := by decide +kernel
theorem d_T_append_87 : decode prog_5_method_6_code 87 = .ok (.iconst 0, 1) := by decide +kernel
theorem d_T_append_88 : decode prog_5_method_6_code 88 = .ok (.invokevirtual 38, 3) := by decide +kernel
theorem d_T_append_91 : decode prog_5_method_6_code 91 = .ok (.iinc 5 1, 3) := by decide +kernel
theorem d_T_append_94 : decode prog_5_method_6_code 94 = .ok (.goto (-21), 3) := by decide +kernel
theorem d_T_append_97 : decode prog_5_method_6_code 97 = .ok (.aload_n 0, 1) := by decide +kernel
theorem d_T_append_98 : decode prog_5_method_6_code 98 = .ok (.getfield 30, 3) := by decide +kernel
theorem d_T_append_101 : decode prog_5_method_6_code 101 = .ok (.ireturn, 1) := by decide +kernel
abbrev y_T_setTimeout : MethodName := ⟨"FrameTables$Table", "setTimeout", "(III)V"⟩
abbrev m_T_setTimeout : MethodName × ByteArray × Nat × Option FieldType := (y_T_setTimeout, prog_5_method_16_code, 4, none)
theorem mi_T_setTimeout : .code y_T_setTimeout prog_5_method_16_code 4 none ∈ wT := wT_m 220 (by decide +kernel) rfl
theorem d_T_setTimeout_0 : decode prog_5_method_16_code 0 = .ok (.aload_n 0, 1) := by decide +kernel
theorem d_T_setTimeout_1 : decode prog_5_method_16_code 1 = .ok (.getfield 27, 3) := by decide +kernel
theorem d_T_setTimeout_4 : decode prog_5_method_16_code 4 = .ok (.iload_n 1, 1) := by decide +kernel
theorem d_T_setTimeout_5 : decode prog_5_method_16_code 5 = .ok (.bipush 21, 2) := by decide +kernel
theorem d_T_setTimeout_7 : decode prog_5_method_16_code 7 = .ok (.imul, 1) := by decide +kernel
theorem d_T_setTimeout_8 : decode prog_5_method_16_code 8 = .ok (.iload_n 2, 1) := by decide +kernel
theorem d_T_setTimeout_9 : decode prog_5_method_16_code 9 = .ok (.iadd, 1) := by decide +kernel
theorem d_T_setTimeout_10 : decode prog_5_method_16_code 10 = .ok (.iload_n 3, 1) := by decide +kernel
theorem d_T_setTimeout_11 : decode prog_5_method_16_code 11 = .ok (.iastore, 1) := by decide +kernel
theorem d_T_setTimeout_12 : decode prog_5_method_16_code 12 = .ok (.return_, 1) := by decide +kernel
abbrev y_T_has : MethodName := ⟨"FrameTables$Table", "has", "(I)Z"⟩
abbrev m_T_has : MethodName × ByteArray × Nat × Option FieldType := (y_T_has, prog_5_method_5_code, 2, some .boolean)
theorem mi_T_has : .code y_T_has prog_5_method_5_code 2 (some .boolean) ∈ wT := wT_m 228 (by decide +kernel) rfl
theorem d_T_has_0 : decode prog_5_method_5_code 0 = .ok (.iload_n 1, 1) := by decide +kernel
theorem d_T_has_1 : decode prog_5_method_5_code 1 = .ok (.iconst 1, 1) := by decide +kernel
theorem d_T_has_2 : decode prog_5_method_5_code 2 = .ok (.if_icmp .lt 15, 3) := by decide +kernel
theorem d_T_has_5 : decode prog_5_method_5_code 5 = .ok (.iload_n 1, 1) := by decide +kernel
theorem d_T_has_6 : decode prog_5_method_5_code 6 = .ok (.aload_n 0, 1) := by decide +kernel
theorem d_T_has_7 : decode prog_5_method_5_code 7 = .ok (.getfield 30, 3) := by decide +kernel
theorem d_T_has_10 : decode prog_5_method_5_code 10 = .ok (.if_icmp .gt 7, 3) := by decide +kernel
theorem d_T_has_13 : decode prog_5_method_5_code 13 = .ok (.iconst 1, 1) := by decide +kernel
theorem d_T_has_14 : decode prog_5_method_5_code 14 = .ok (.goto 4, 3) := by decide +kernel
theorem d_T_has_17 : decode prog_5_method_5_code 17 = .ok (.iconst 0, 1) := by decide +kernel
theorem d_T_has_18 : decode prog_5_method_5_code 18 = .ok (.ireturn, 1) := by decide +kernel
abbrev y_T_senderOf : MethodName := ⟨"FrameTables$Table", "senderOf", "(I)I"⟩
abbrev m_T_senderOf : MethodName × ByteArray × Nat × Option FieldType := (y_T_senderOf, prog_5_method_7_code, 2, some .int)
theorem mi_T_senderOf : .code y_T_senderOf prog_5_method_7_code 2 (some .int) ∈ wT := wT_m 232 (by decide +kernel) rfl
theorem d_T_senderOf_0 : decode prog_5_method_7_code 0 = .ok (.aload_n 0, 1) := by decide +kernel
theorem d_T_senderOf_1 : decode prog_5_method_7_code 1 = .ok (.getfield 9, 3) := by decide +kernel
theorem d_T_senderOf_4 : decode prog_5_method_7_code 4 = .ok (.iload_n 1, 1) := by decide +kernel
theorem d_T_senderOf_5 : decode prog_5_method_7_code 5 = .ok (.iaload, 1) := by decide +kernel
theorem d_T_senderOf_6 : decode prog_5_method_7_code 6 = .ok (.ireturn, 1) := by decide +kernel
abbrev y_T_readersOf : MethodName := ⟨"FrameTables$Table", "readersOf", "(I)I"⟩
abbrev m_T_readersOf : MethodName × ByteArray × Nat × Option FieldType := (y_T_readersOf, prog_5_method_19_code, 4, some .int)
theorem mi_T_readersOf : .code y_T_readersOf prog_5_method_19_code 4 (some .int) ∈ wT := wT_m 237 (by decide +kernel) rfl
theorem d_T_readersOf_0 : decode prog_5_method_19_code 0 = .ok (.iconst 0, 1) := by decide +kernel
theorem d_T_readersOf_1 : decode prog_5_method_19_code 1 = .ok (.istore_n 2, 1) := by decide +kernel
theorem d_T_readersOf_2 : decode prog_5_method_19_code 2 = .ok (.iconst 1, 1) := by decide +kernel
theorem d_T_readersOf_3 : decode prog_5_method_19_code 3 = .ok (.istore_n 3, 1) := by decide +kernel
theorem d_T_readersOf_4 : decode prog_5_method_19_code 4 = .ok (.iload_n 3, 1) := by decide +kernel
theorem d_T_readersOf_5 : decode prog_5_method_19_code 5 = .ok (.bipush 20, 2) := by decide +kernel
theorem d_T_readersOf_7 : decode prog_5_method_19_code 7 = .ok (.if_icmp .gt 21, 3) := by decide +kernel
theorem d_T_readersOf_10 : decode prog_5_method_19_code 10 = .ok (.aload_n 0, 1) := by decide +kernel
theorem d_T_readersOf_11 : decode prog_5_method_19_code 11 = .ok (.iload_n 1, 1) := by decide +kernel
theorem d_T_readersOf_12 : decode prog_5_method_19_code 12 = .ok (.iload_n 3, 1) := by decide +kernel
theorem d_T_readersOf_13 : decode prog_5_method_19_code 13 = .ok (.invokevirtual 46, 3) := by decide +kernel
theorem d_T_readersOf_16 : decode prog_5_method_19_code 16 = .ok (.ifCond .eq 6, 3) := by decide +kernel
theorem d_T_readersOf_19 : decode prog_5_method_19_code 19 = .ok (.iinc 2 1, 3) := by decide +kernel
theorem d_T_readersOf_22 : decode prog_5_method_19_code 22 = .ok (.iinc 3 1, 3) := by decide +kernel
theorem d_T_readersOf_25 : decode prog_5_method_19_code 25 = .ok (.goto (-21), 3) := by decide +kernel
theorem d_T_readersOf_28 : decode prog_5_method_19_code 28 = .ok (.iload_n 2, 1) := by decide +kernel
theorem d_T_readersOf_29 : decode prog_5_method_19_code 29 = .ok (.ireturn, 1) := by decide +kernel
abbrev y_T_reads : MethodName := ⟨"FrameTables$Table", "reads", "(II)Z"⟩
abbrev m_T_reads : MethodName × ByteArray × Nat × Option FieldType := (y_T_reads, prog_5_method_17_code, 3, some .boolean)
theorem mi_T_reads : .code y_T_reads prog_5_method_17_code 3 (some .boolean) ∈ wT := wT_m 241 (by decide +kernel) rfl
theorem d_T_reads_0 : decode prog_5_method_17_code 0 = .ok (.aload_n 0, 1) := by decide +kernel
theorem d_T_reads_1 : decode prog_5_method_17_code 1 = .ok (.iload_n 1, 1) := by decide +kernel
theorem d_T_reads_2 : decode prog_5_method_17_code 2 = .ok (.iload_n 2, 1) := by decide +kernel
theorem d_T_reads_3 : decode prog_5_method_17_code 3 = .ok (.invokevirtual 42, 3) := by decide +kernel
theorem d_T_reads_6 : decode prog_5_method_17_code 6 = .ok (.ifCond .le 7, 3) := by decide +kernel
theorem d_T_reads_9 : decode prog_5_method_17_code 9 = .ok (.iconst 1, 1) := by decide +kernel
theorem d_T_reads_10 : decode prog_5_method_17_code 10 = .ok (.goto 4, 3) := by decide +kernel
theorem d_T_reads_13 : decode prog_5_method_17_code 13 = .ok (.iconst 0, 1) := by decide +kernel
theorem d_T_reads_14 : decode prog_5_method_17_code 14 = .ok (.ireturn, 1) := by decide +kernel
abbrev y_T_timeoutOf : MethodName := ⟨"FrameTables$Table", "timeoutOf", "(II)I"⟩
abbrev m_T_timeoutOf : MethodName × ByteArray × Nat × Option FieldType := (y_T_timeoutOf, prog_5_method_15_code, 3, some .int)
theorem mi_T_timeoutOf : .code y_T_timeoutOf prog_5_method_15_code 3 (some .int) ∈ wT := wT_m 245 (by decide +kernel) rfl
theorem d_T_timeoutOf_0 : decode prog_5_method_15_code 0 = .ok (.aload_n 0, 1) := by decide +kernel
theorem d_T_timeoutOf_1 : decode prog_5_method_15_code 1 = .ok (.getfield 27, 3) := by decide +kernel
theorem d_T_timeoutOf_4 : decode prog_5_method_15_code 4 = .ok (.iload_n 1, 1) := by decide +kernel
theorem d_T_timeoutOf_5 : decode prog_5_method_15_code 5 = .ok (.bipush 21, 2) := by decide +kernel
theorem d_T_timeoutOf_7 : decode prog_5_method_15_code 7 = .ok (.imul, 1) := by decide +kernel
theorem d_T_timeoutOf_8 : decode prog_5_method_15_code 8 = .ok (.iload_n 2, 1) := by decide +kernel
theorem d_T_timeoutOf_9 : decode prog_5_method_15_code 9 = .ok (.iadd, 1) := by decide +kernel
theorem d_T_timeoutOf_10 : decode prog_5_method_15_code 10 = .ok (.iaload, 1) := by decide +kernel
theorem d_T_timeoutOf_11 : decode prog_5_method_15_code 11 = .ok (.ireturn, 1) := by decide +kernel
abbrev y_T_kindOf : MethodName := ⟨"FrameTables$Table", "kindOf", "(I)I"⟩
abbrev m_T_kindOf : MethodName × ByteArray × Nat × Option FieldType := (y_T_kindOf, prog_5_method_10_code, 2, some .int)
theorem mi_T_kindOf : .code y_T_kindOf prog_5_method_10_code 2 (some .int) ∈ wT := wT_m 257 (by decide +kernel) rfl
theorem d_T_kindOf_0 : decode prog_5_method_10_code 0 = .ok (.aload_n 0, 1) := by decide +kernel
theorem d_T_kindOf_1 : decode prog_5_method_10_code 1 = .ok (.getfield 18, 3) := by decide +kernel
theorem d_T_kindOf_4 : decode prog_5_method_10_code 4 = .ok (.iload_n 1, 1) := by decide +kernel
theorem d_T_kindOf_5 : decode prog_5_method_10_code 5 = .ok (.iaload, 1) := by decide +kernel
theorem d_T_kindOf_6 : decode prog_5_method_10_code 6 = .ok (.bipush 25, 2) := by decide +kernel
theorem d_T_kindOf_8 : decode prog_5_method_10_code 8 = .ok (.idiv, 1) := by decide +kernel
theorem d_T_kindOf_9 : decode prog_5_method_10_code 9 = .ok (.ireturn, 1) := by decide +kernel
abbrev y_T_placeInKind : MethodName := ⟨"FrameTables$Table", "placeInKind", "(I)I"⟩
abbrev m_T_placeInKind : MethodName × ByteArray × Nat × Option FieldType := (y_T_placeInKind, prog_5_method_20_code, 4, some .int)
theorem mi_T_placeInKind : .code y_T_placeInKind prog_5_method_20_code 4 (some .int) ∈ wT := wT_m 261 (by decide +kernel) rfl
theorem d_T_placeInKind_0 : decode prog_5_method_20_code 0 = .ok (.iconst 0, 1) := by decide +kernel
theorem d_T_placeInKind_1 : decode prog_5_method_20_code 1 = .ok (.istore_n 2, 1) := by decide +kernel
theorem d_T_placeInKind_2 : decode prog_5_method_20_code 2 = .ok (.iconst 1, 1) := by decide +kernel
theorem d_T_placeInKind_3 : decode prog_5_method_20_code 3 = .ok (.istore_n 3, 1) := by decide +kernel
theorem d_T_placeInKind_4 : decode prog_5_method_20_code 4 = .ok (.iload_n 3, 1) := by decide +kernel
theorem d_T_placeInKind_5 : decode prog_5_method_20_code 5 = .ok (.aload_n 0, 1) := by decide +kernel
theorem d_T_placeInKind_6 : decode prog_5_method_20_code 6 = .ok (.getfield 30, 3) := by decide +kernel
theorem d_T_placeInKind_9 : decode prog_5_method_20_code 9 = .ok (.if_icmp .gt 34, 3) := by decide +kernel
theorem d_T_placeInKind_12 : decode prog_5_method_20_code 12 = .ok (.aload_n 0, 1) := by decide +kernel
theorem d_T_placeInKind_13 : decode prog_5_method_20_code 13 = .ok (.iload_n 3, 1) := by decide +kernel
theorem d_T_placeInKind_14 : decode prog_5_method_20_code 14 = .ok (.invokevirtual 50, 3) := by decide +kernel
theorem d_T_placeInKind_17 : decode prog_5_method_20_code 17 = .ok (.aload_n 0, 1) := by decide +kernel
theorem d_T_placeInKind_18 : decode prog_5_method_20_code 18 = .ok (.iload_n 1, 1) := by decide +kernel
theorem d_T_placeInKind_19 : decode prog_5_method_20_code 19 = .ok (.invokevirtual 50, 3) := by decide +kernel
theorem d_T_placeInKind_22 : decode prog_5_method_20_code 22 = .ok (.if_icmp .ne 15, 3) := by decide +kernel
theorem d_T_placeInKind_25 : decode prog_5_method_20_code 25 = .ok (.aload_n 0, 1) := by decide +kernel
theorem d_T_placeInKind_26 : decode prog_5_method_20_code 26 = .ok (.iload_n 3, 1) := by decide +kernel
theorem d_T_placeInKind_27 : decode prog_5_method_20_code 27 = .ok (.iload_n 1, 1) := by decide +kernel
theorem d_T_placeInKind_28 : decode prog_5_method_20_code 28 = .ok (.invokevirtual 54, 3) := by decide +kernel
theorem d_T_placeInKind_31 : decode prog_5_method_20_code 31 = .ok (.ifCond .eq 6, 3) := by decide +kernel
theorem d_T_placeInKind_34 : decode prog_5_method_20_code 34 = .ok (.iinc 2 1, 3) := by decide +kernel
theorem d_T_placeInKind_37 : decode prog_5_method_20_code 37 = .ok (.iinc 3 1, 3) := by decide +kernel
theorem d_T_placeInKind_40 : decode prog_5_method_20_code 40 = .ok (.goto (-36), 3) := by decide +kernel
theorem d_T_placeInKind_43 : decode prog_5_method_20_code 43 = .ok (.iload_n 2, 1) := by decide +kernel
theorem d_T_placeInKind_44 : decode prog_5_method_20_code 44 = .ok (.ireturn, 1) := by decide +kernel
abbrev y_T_comesBefore : MethodName := ⟨"FrameTables$Table", "comesBefore", "(II)Z"⟩
abbrev m_T_comesBefore : MethodName × ByteArray × Nat × Option FieldType := (y_T_comesBefore, prog_5_method_23_code, 3, some .boolean)
theorem mi_T_comesBefore : .code y_T_comesBefore prog_5_method_23_code 3 (some .boolean) ∈ wT := wT_m 266 (by decide +kernel) rfl
theorem d_T_comesBefore_0 : decode prog_5_method_23_code 0 = .ok (.aload_n 0, 1) := by decide +kernel
theorem d_T_comesBefore_1 : decode prog_5_method_23_code 1 = .ok (.getfield 18, 3) := by decide +kernel
theorem d_T_comesBefore_4 : decode prog_5_method_23_code 4 = .ok (.iload_n 1, 1) := by decide +kernel
theorem d_T_comesBefore_5 : decode prog_5_method_23_code 5 = .ok (.iaload, 1) := by decide +kernel
theorem d_T_comesBefore_6 : decode prog_5_method_23_code 6 = .ok (.aload_n 0, 1) := by decide +kernel
theorem d_T_comesBefore_7 : decode prog_5_method_23_code 7 = .ok (.getfield 18, 3) := by decide +kernel
theorem d_T_comesBefore_10 : decode prog_5_method_23_code 10 = .ok (.iload_n 2, 1) := by decide +kernel
theorem d_T_comesBefore_11 : decode prog_5_method_23_code 11 = .ok (.iaload, 1) := by decide +kernel
theorem d_T_comesBefore_12 : decode prog_5_method_23_code 12 = .ok (.if_icmp .lt 23, 3) := by decide +kernel
theorem d_T_comesBefore_15 : decode prog_5_method_23_code 15 = .ok (.aload_n 0, 1) := by decide +kernel
theorem d_T_comesBefore_16 : decode prog_5_method_23_code 16 = .ok (.getfield 18, 3) := by decide +kernel
theorem d_T_comesBefore_19 : decode prog_5_method_23_code 19 = .ok (.iload_n 1, 1) := by decide +kernel
theorem d_T_comesBefore_20 : decode prog_5_method_23_code 20 = .ok (.iaload, 1) := by decide +kernel
theorem d_T_comesBefore_21 : decode prog_5_method_23_code 21 = .ok (.aload_n 0, 1) := by decide +kernel
theorem d_T_comesBefore_22 : decode prog_5_method_23_code 22 = .ok (.getfield 18, 3) := by decide +kernel
theorem d_T_comesBefore_25 : decode prog_5_method_23_code 25 = .ok (.iload_n 2, 1) := by decide +kernel
theorem d_T_comesBefore_26 : decode prog_5_method_23_code 26 = .ok (.iaload, 1) := by decide +kernel
theorem d_T_comesBefore_27 : decode prog_5_method_23_code 27 = .ok (.if_icmp .ne 12, 3) := by decide +kernel
theorem d_T_comesBefore_30 : decode prog_5_method_23_code 30 = .ok (.iload_n 1, 1) := by decide +kernel
theorem d_T_comesBefore_31 : decode prog_5_method_23_code 31 = .ok (.iload_n 2, 1) := by decide +kernel
theorem d_T_comesBefore_32 : decode prog_5_method_23_code 32 = .ok (.if_icmp .ge 7, 3) := by decide +kernel
theorem d_T_comesBefore_35 : decode prog_5_method_23_code 35 = .ok (.iconst 1, 1) := by decide +kernel
theorem d_T_comesBefore_36 : decode prog_5_method_23_code 36 = .ok (.goto 4, 3) := by decide +kernel
theorem d_T_comesBefore_39 : decode prog_5_method_23_code 39 = .ok (.iconst 0, 1) := by decide +kernel
theorem d_T_comesBefore_40 : decode prog_5_method_23_code 40 = .ok (.ireturn, 1) := by decide +kernel
abbrev y_S_identifierAt : MethodName := ⟨"FrameTables$Spans", "identifierAt", "(II)I"⟩
abbrev m_S_identifierAt : MethodName × ByteArray × Nat × Option FieldType := (y_S_identifierAt, prog_4_method_4_code, 4, some .int)
theorem mi_S_identifierAt : .code y_S_identifierAt prog_4_method_4_code 4 (some .int) ∈ wT := wT_m 270 (by decide +kernel) rfl
theorem d_S_identifierAt_0 : decode prog_4_method_4_code 0 = .ok (.aload_n 0, 1) := by decide +kernel
theorem d_S_identifierAt_1 : decode prog_4_method_4_code 1 = .ok (.getfield 9, 3) := by decide +kernel
theorem d_S_identifierAt_4 : decode prog_4_method_4_code 4 = .ok (.iload_n 1, 1) := by decide +kernel
theorem d_S_identifierAt_5 : decode prog_4_method_4_code 5 = .ok (.iaload, 1) := by decide +kernel
theorem d_S_identifierAt_6 : decode prog_4_method_4_code 6 = .ok (.iload_n 2, 1) := by decide +kernel
theorem d_S_identifierAt_7 : decode prog_4_method_4_code 7 = .ok (.iadd, 1) := by decide +kernel
theorem d_S_identifierAt_8 : decode prog_4_method_4_code 8 = .ok (.istore_n 3, 1) := by decide +kernel
theorem d_S_identifierAt_9 : decode prog_4_method_4_code 9 = .ok (.iload_n 3, 1) := by decide +kernel
theorem d_S_identifierAt_10 : decode prog_4_method_4_code 10 = .ok (.aload_n 0, 1) := by decide +kernel
theorem d_S_identifierAt_11 : decode prog_4_method_4_code 11 = .ok (.getfield 15, 3) := by decide +kernel
theorem d_S_identifierAt_14 : decode prog_4_method_4_code 14 = .ok (.iload_n 1, 1) := by decide +kernel
theorem d_S_identifierAt_15 : decode prog_4_method_4_code 15 = .ok (.iaload, 1) := by decide +kernel
theorem d_S_identifierAt_16 : decode prog_4_method_4_code 16 = .ok (.if_icmp .gt 7, 3) := by decide +kernel
theorem d_S_identifierAt_19 : decode prog_4_method_4_code 19 = .ok (.iload_n 3, 1) := by decide +kernel
theorem d_S_identifierAt_20 : decode prog_4_method_4_code 20 = .ok (.goto 4, 3) := by decide +kernel
theorem d_S_identifierAt_23 : decode prog_4_method_4_code 23 = .ok (.iconst (-1), 1) := by decide +kernel
theorem d_S_identifierAt_24 : decode prog_4_method_4_code 24 = .ok (.ireturn, 1) := by decide +kernel
abbrev y_S_meetAnother : MethodName := ⟨"FrameTables$Spans", "meetAnother", "(III)Z"⟩
abbrev m_S_meetAnother : MethodName × ByteArray × Nat × Option FieldType := (y_S_meetAnother, prog_4_method_3_code, 5, some .boolean)
theorem mi_S_meetAnother : .code y_S_meetAnother prog_4_method_3_code 5 (some .boolean) ∈ wT := wT_m 281 (by decide +kernel) rfl
theorem d_S_meetAnother_0 : decode prog_4_method_3_code 0 = .ok (.iconst 0, 1) := by decide +kernel
theorem d_S_meetAnother_1 : decode prog_4_method_3_code 1 = .ok (.istore 4, 2) := by decide +kernel
theorem d_S_meetAnother_3 : decode prog_4_method_3_code 3 = .ok (.iload 4, 2) := by decide +kernel
theorem d_S_meetAnother_5 : decode prog_4_method_3_code 5 = .ok (.iconst 4, 1) := by decide +kernel
theorem d_S_meetAnother_6 : decode prog_4_method_3_code 6 = .ok (.if_icmp .ge 39, 3) := by decide +kernel
theorem d_S_meetAnother_9 : decode prog_4_method_3_code 9 = .ok (.iload 4, 2) := by decide +kernel
theorem d_S_meetAnother_11 : decode prog_4_method_3_code 11 = .ok (.iload_n 1, 1) := by decide +kernel
theorem d_S_meetAnother_12 : decode prog_4_method_3_code 12 = .ok (.if_icmp .eq 27, 3) := by decide +kernel
theorem d_S_meetAnother_15 : decode prog_4_method_3_code 15 = .ok (.iload_n 2, 1) := by decide +kernel
theorem d_S_meetAnother_16 : decode prog_4_method_3_code 16 = .ok (.aload_n 0, 1) := by decide +kernel
theorem d_S_meetAnother_17 : decode prog_4_method_3_code 17 = .ok (.getfield 15, 3) := by decide +kernel
theorem d_S_meetAnother_20 : decode prog_4_method_3_code 20 = .ok (.iload 4, 2) := by decide +kernel
theorem d_S_meetAnother_22 : decode prog_4_method_3_code 22 = .ok (.iaload, 1) := by decide +kernel
theorem d_S_meetAnother_23 : decode prog_4_method_3_code 23 = .ok (.if_icmp .gt 16, 3) := by decide +kernel
theorem d_S_meetAnother_26 : decode prog_4_method_3_code 26 = .ok (.iload_n 3, 1) := by decide +kernel
theorem d_S_meetAnother_27 : decode prog_4_method_3_code 27 = .ok (.aload_n 0, 1) := by decide +kernel
theorem d_S_meetAnother_28 : decode prog_4_method_3_code 28 = .ok (.getfield 9, 3) := by decide +kernel
theorem d_S_meetAnother_31 : decode prog_4_method_3_code 31 = .ok (.iload 4, 2) := by decide +kernel
theorem d_S_meetAnother_33 : decode prog_4_method_3_code 33 = .ok (.iaload, 1) := by decide +kernel
theorem d_S_meetAnother_34 : decode prog_4_method_3_code 34 = .ok (.if_icmp .lt 5, 3) := by decide +kernel
theorem d_S_meetAnother_37 : decode prog_4_method_3_code 37 = .ok (.iconst 1, 1) := by decide +kernel
theorem d_S_meetAnother_38 : decode prog_4_method_3_code 38 = .ok (.ireturn, 1) := by decide +kernel
theorem d_S_meetAnother_39 : decode prog_4_method_3_code 39 = .ok (.iinc 4 1, 3) := by decide +kernel
theorem d_S_meetAnother_42 : decode prog_4_method_3_code 42 = .ok (.goto (-39), 3) := by decide +kernel
theorem d_S_meetAnother_45 : decode prog_4_method_3_code 45 = .ok (.iconst 0, 1) := by decide +kernel
theorem d_S_meetAnother_46 : decode prog_4_method_3_code 46 = .ok (.ireturn, 1) := by decide +kernel
abbrev y_S_set : MethodName := ⟨"FrameTables$Spans", "set", "(III)V"⟩
abbrev m_S_set : MethodName × ByteArray × Nat × Option FieldType := (y_S_set, prog_4_method_2_code, 4, none)
theorem mi_S_set : .code y_S_set prog_4_method_2_code 4 none ∈ wT := wT_m 285 (by decide +kernel) rfl
theorem d_S_set_0 : decode prog_4_method_2_code 0 = .ok (.aload_n 0, 1) := by decide +kernel
theorem d_S_set_1 : decode prog_4_method_2_code 1 = .ok (.getfield 9, 3) := by decide +kernel
theorem d_S_set_4 : decode prog_4_method_2_code 4 = .ok (.iload_n 1, 1) := by decide +kernel
theorem d_S_set_5 : decode prog_4_method_2_code 5 = .ok (.iload_n 2, 1) := by decide +kernel
theorem d_S_set_6 : decode prog_4_method_2_code 6 = .ok (.iastore, 1) := by decide +kernel
theorem d_S_set_7 : decode prog_4_method_2_code 7 = .ok (.aload_n 0, 1) := by decide +kernel
theorem d_S_set_8 : decode prog_4_method_2_code 8 = .ok (.getfield 15, 3) := by decide +kernel
theorem d_S_set_11 : decode prog_4_method_2_code 11 = .ok (.iload_n 1, 1) := by decide +kernel
theorem d_S_set_12 : decode prog_4_method_2_code 12 = .ok (.iload_n 3, 1) := by decide +kernel
theorem d_S_set_13 : decode prog_4_method_2_code 13 = .ok (.iastore, 1) := by decide +kernel
theorem d_S_set_14 : decode prog_4_method_2_code 14 = .ok (.return_, 1) := by decide +kernel
abbrev y_T_size : MethodName := ⟨"FrameTables$Table", "size", "()I"⟩
abbrev m_T_size : MethodName × ByteArray × Nat × Option FieldType := (y_T_size, prog_5_method_3_code, 1, some .int)
theorem mi_T_size : .code y_T_size prog_5_method_3_code 1 (some .int) ∈ wT := wT_m 302 (by decide +kernel) rfl
theorem d_T_size_0 : decode prog_5_method_3_code 0 = .ok (.aload_n 0, 1) := by decide +kernel
theorem d_T_size_1 : decode prog_5_method_3_code 1 = .ok (.getfield 30, 3) := by decide +kernel
theorem d_T_size_4 : decode prog_5_method_3_code 4 = .ok (.ireturn, 1) := by decide +kernel
abbrev y_T_periodOf : MethodName := ⟨"FrameTables$Table", "periodOf", "(I)I"⟩
abbrev m_T_periodOf : MethodName × ByteArray × Nat × Option FieldType := (y_T_periodOf, prog_5_method_8_code, 2, some .int)
theorem mi_T_periodOf : .code y_T_periodOf prog_5_method_8_code 2 (some .int) ∈ wT := wT_m 306 (by decide +kernel) rfl
theorem d_T_periodOf_0 : decode prog_5_method_8_code 0 = .ok (.aload_n 0, 1) := by decide +kernel
theorem d_T_periodOf_1 : decode prog_5_method_8_code 1 = .ok (.getfield 15, 3) := by decide +kernel
theorem d_T_periodOf_4 : decode prog_5_method_8_code 4 = .ok (.iload_n 1, 1) := by decide +kernel
theorem d_T_periodOf_5 : decode prog_5_method_8_code 5 = .ok (.iaload, 1) := by decide +kernel
theorem d_T_periodOf_6 : decode prog_5_method_8_code 6 = .ok (.ireturn, 1) := by decide +kernel
abbrev y_T_setOffset : MethodName := ⟨"FrameTables$Table", "setOffset", "(II)V"⟩
abbrev m_T_setOffset : MethodName × ByteArray × Nat × Option FieldType := (y_T_setOffset, prog_5_method_14_code, 3, none)
theorem mi_T_setOffset : .code y_T_setOffset prog_5_method_14_code 3 none ∈ wT := wT_m 354 (by decide +kernel) rfl
theorem d_T_setOffset_0 : decode prog_5_method_14_code 0 = .ok (.aload_n 0, 1) := by decide +kernel
theorem d_T_setOffset_1 : decode prog_5_method_14_code 1 = .ok (.getfield 24, 3) := by decide +kernel
theorem d_T_setOffset_4 : decode prog_5_method_14_code 4 = .ok (.iload_n 1, 1) := by decide +kernel
theorem d_T_setOffset_5 : decode prog_5_method_14_code 5 = .ok (.iload_n 2, 1) := by decide +kernel
theorem d_T_setOffset_6 : decode prog_5_method_14_code 6 = .ok (.iastore, 1) := by decide +kernel
theorem d_T_setOffset_7 : decode prog_5_method_14_code 7 = .ok (.return_, 1) := by decide +kernel
abbrev y_T_offsetOf : MethodName := ⟨"FrameTables$Table", "offsetOf", "(I)I"⟩
abbrev m_T_offsetOf : MethodName × ByteArray × Nat × Option FieldType := (y_T_offsetOf, prog_5_method_13_code, 2, some .int)
theorem mi_T_offsetOf : .code y_T_offsetOf prog_5_method_13_code 2 (some .int) ∈ wT := wT_m 362 (by decide +kernel) rfl
theorem d_T_offsetOf_0 : decode prog_5_method_13_code 0 = .ok (.aload_n 0, 1) := by decide +kernel
theorem d_T_offsetOf_1 : decode prog_5_method_13_code 1 = .ok (.getfield 24, 3) := by decide +kernel
theorem d_T_offsetOf_4 : decode prog_5_method_13_code 4 = .ok (.iload_n 1, 1) := by decide +kernel
theorem d_T_offsetOf_5 : decode prog_5_method_13_code 5 = .ok (.iaload, 1) := by decide +kernel
theorem d_T_offsetOf_6 : decode prog_5_method_13_code 6 = .ok (.ireturn, 1) := by decide +kernel
abbrev y_T_setGap : MethodName := ⟨"FrameTables$Table", "setGap", "(II)V"⟩
abbrev m_T_setGap : MethodName × ByteArray × Nat × Option FieldType := (y_T_setGap, prog_5_method_12_code, 3, none)
theorem mi_T_setGap : .code y_T_setGap prog_5_method_12_code 3 none ∈ wT := wT_m 380 (by decide +kernel) rfl
theorem d_T_setGap_0 : decode prog_5_method_12_code 0 = .ok (.aload_n 0, 1) := by decide +kernel
theorem d_T_setGap_1 : decode prog_5_method_12_code 1 = .ok (.getfield 21, 3) := by decide +kernel
theorem d_T_setGap_4 : decode prog_5_method_12_code 4 = .ok (.iload_n 1, 1) := by decide +kernel
theorem d_T_setGap_5 : decode prog_5_method_12_code 5 = .ok (.iload_n 2, 1) := by decide +kernel
theorem d_T_setGap_6 : decode prog_5_method_12_code 6 = .ok (.iastore, 1) := by decide +kernel
theorem d_T_setGap_7 : decode prog_5_method_12_code 7 = .ok (.return_, 1) := by decide +kernel
abbrev y_T_hasShortTimeout : MethodName := ⟨"FrameTables$Table", "hasShortTimeout", "(I)Z"⟩
abbrev m_T_hasShortTimeout : MethodName × ByteArray × Nat × Option FieldType := (y_T_hasShortTimeout, prog_5_method_21_code, 3, some .boolean)
theorem mi_T_hasShortTimeout : .code y_T_hasShortTimeout prog_5_method_21_code 3 (some .boolean) ∈ wT := wT_m 393 (by decide +kernel) rfl
theorem d_T_hasShortTimeout_0 : decode prog_5_method_21_code 0 = .ok (.iconst 1, 1) := by decide +kernel
theorem d_T_hasShortTimeout_1 : decode prog_5_method_21_code 1 = .ok (.istore_n 2, 1) := by decide +kernel
theorem d_T_hasShortTimeout_2 : decode prog_5_method_21_code 2 = .ok (.iload_n 2, 1) := by decide +kernel
theorem d_T_hasShortTimeout_3 : decode prog_5_method_21_code 3 = .ok (.bipush 20, 2) := by decide +kernel
theorem d_T_hasShortTimeout_5 : decode prog_5_method_21_code 5 = .ok (.if_icmp .gt 35, 3) := by decide +kernel
theorem d_T_hasShortTimeout_8 : decode prog_5_method_21_code 8 = .ok (.aload_n 0, 1) := by decide +kernel
theorem d_T_hasShortTimeout_9 : decode prog_5_method_21_code 9 = .ok (.iload_n 1, 1) := by decide +kernel
theorem d_T_hasShortTimeout_10 : decode prog_5_method_21_code 10 = .ok (.iload_n 2, 1) := by decide +kernel
theorem d_T_hasShortTimeout_11 : decode prog_5_method_21_code 11 = .ok (.invokevirtual 46, 3) := by decide +kernel
theorem d_T_hasShortTimeout_14 : decode prog_5_method_21_code 14 = .ok (.ifCond .eq 20, 3) := by decide +kernel
theorem d_T_hasShortTimeout_17 : decode prog_5_method_21_code 17 = .ok (.aload_n 0, 1) := by decide +kernel
theorem d_T_hasShortTimeout_18 : decode prog_5_method_21_code 18 = .ok (.iload_n 1, 1) := by decide +kernel
theorem d_T_hasShortTimeout_19 : decode prog_5_method_21_code 19 = .ok (.iload_n 2, 1) := by decide +kernel
theorem d_T_hasShortTimeout_20 : decode prog_5_method_21_code 20 = .ok (.invokevirtual 42, 3) := by decide +kernel
theorem d_T_hasShortTimeout_23 : decode prog_5_method_21_code 23 = .ok (.aload_n 0, 1) := by decide +kernel
theorem d_T_hasShortTimeout_24 : decode prog_5_method_21_code 24 = .ok (.getfield 15, 3) := by decide +kernel
theorem d_T_hasShortTimeout_27 : decode prog_5_method_21_code 27 = .ok (.iload_n 1, 1) := by decide +kernel
theorem d_T_hasShortTimeout_28 : decode prog_5_method_21_code 28 = .ok (.iaload, 1) := by decide +kernel
theorem d_T_hasShortTimeout_29 : decode prog_5_method_21_code 29 = .ok (.if_icmp .ge 5, 3) := by decide +kernel
theorem d_T_hasShortTimeout_32 : decode prog_5_method_21_code 32 = .ok (.iconst 1, 1) := by decide +kernel
theorem d_T_hasShortTimeout_33 : decode prog_5_method_21_code 33 = .ok (.ireturn, 1) := by decide +kernel
theorem d_T_hasShortTimeout_34 : decode prog_5_method_21_code 34 = .ok (.iinc 2 1, 3) := by decide +kernel
theorem d_T_hasShortTimeout_37 : decode prog_5_method_21_code 37 = .ok (.goto (-35), 3) := by decide +kernel
theorem d_T_hasShortTimeout_40 : decode prog_5_method_21_code 40 = .ok (.iconst 0, 1) := by decide +kernel
theorem d_T_hasShortTimeout_41 : decode prog_5_method_21_code 41 = .ok (.ireturn, 1) := by decide +kernel
abbrev y_T_repeatsAnEarlierOne : MethodName := ⟨"FrameTables$Table", "repeatsAnEarlierOne", "(I)Z"⟩
abbrev m_T_repeatsAnEarlierOne : MethodName × ByteArray × Nat × Option FieldType := (y_T_repeatsAnEarlierOne, prog_5_method_22_code, 3, some .boolean)
theorem mi_T_repeatsAnEarlierOne : .code y_T_repeatsAnEarlierOne prog_5_method_22_code 3 (some .boolean) ∈ wT := wT_m 397 (by decide +kernel) rfl
theorem d_T_repeatsAnEarlierOne_0 : decode prog_5_method_22_code 0 = .ok (.iconst 1, 1) := by decide +kernel
theorem d_T_repeatsAnEarlierOne_1 : decode prog_5_method_22_code 1 = .ok (.istore_n 2, 1) := by decide +kernel
theorem d_T_repeatsAnEarlierOne_2 : decode prog_5_method_22_code 2 = .ok (.iload_n 2, 1) := by decide +kernel
theorem d_T_repeatsAnEarlierOne_3 : decode prog_5_method_22_code 3 = .ok (.iload_n 1, 1) := by decide +kernel
theorem d_T_repeatsAnEarlierOne_4 : decode prog_5_method_22_code 4 = .ok (.if_icmp .ge 56, 3) := by decide +kernel
theorem d_T_repeatsAnEarlierOne_7 : decode prog_5_method_22_code 7 = .ok (.aload_n 0, 1) := by decide +kernel
theorem d_T_repeatsAnEarlierOne_8 : decode prog_5_method_22_code 8 = .ok (.getfield 9, 3) := by decide +kernel
theorem d_T_repeatsAnEarlierOne_11 : decode prog_5_method_22_code 11 = .ok (.iload_n 2, 1) := by decide +kernel
theorem d_T_repeatsAnEarlierOne_12 : decode prog_5_method_22_code 12 = .ok (.iaload, 1) := by decide +kernel
theorem d_T_repeatsAnEarlierOne_13 : decode prog_5_method_22_code 13 = .ok (.aload_n 0, 1) := by decide +kernel
theorem d_T_repeatsAnEarlierOne_14 : decode prog_5_method_22_code 14 = .ok (.getfield 9, 3) := by decide +kernel
theorem d_T_repeatsAnEarlierOne_17 : decode prog_5_method_22_code 17 = .ok (.iload_n 1, 1) := by decide +kernel
theorem d_T_repeatsAnEarlierOne_18 : decode prog_5_method_22_code 18 = .ok (.iaload, 1) := by decide +kernel
theorem d_T_repeatsAnEarlierOne_19 : decode prog_5_method_22_code 19 = .ok (.if_icmp .ne 35, 3) := by decide +kernel
theorem d_T_repeatsAnEarlierOne_22 : decode prog_5_method_22_code 22 = .ok (.aload_n 0, 1) := by decide +kernel
theorem d_T_repeatsAnEarlierOne_23 : decode prog_5_method_22_code 23 = .ok (.getfield 15, 3) := by decide +kernel
theorem d_T_repeatsAnEarlierOne_26 : decode prog_5_method_22_code 26 = .ok (.iload_n 2, 1) := by decide +kernel
theorem d_T_repeatsAnEarlierOne_27 : decode prog_5_method_22_code 27 = .ok (.iaload, 1) := by decide +kernel
theorem d_T_repeatsAnEarlierOne_28 : decode prog_5_method_22_code 28 = .ok (.aload_n 0, 1) := by decide +kernel
theorem d_T_repeatsAnEarlierOne_29 : decode prog_5_method_22_code 29 = .ok (.getfield 15, 3) := by decide +kernel
theorem d_T_repeatsAnEarlierOne_32 : decode prog_5_method_22_code 32 = .ok (.iload_n 1, 1) := by decide +kernel
theorem d_T_repeatsAnEarlierOne_33 : decode prog_5_method_22_code 33 = .ok (.iaload, 1) := by decide +kernel
theorem d_T_repeatsAnEarlierOne_34 : decode prog_5_method_22_code 34 = .ok (.if_icmp .ne 20, 3) := by decide +kernel
theorem d_T_repeatsAnEarlierOne_37 : decode prog_5_method_22_code 37 = .ok (.aload_n 0, 1) := by decide +kernel
theorem d_T_repeatsAnEarlierOne_38 : decode prog_5_method_22_code 38 = .ok (.getfield 18, 3) := by decide +kernel
theorem d_T_repeatsAnEarlierOne_41 : decode prog_5_method_22_code 41 = .ok (.iload_n 2, 1) := by decide +kernel
theorem d_T_repeatsAnEarlierOne_42 : decode prog_5_method_22_code 42 = .ok (.iaload, 1) := by decide +kernel
theorem d_T_repeatsAnEarlierOne_43 : decode prog_5_method_22_code 43 = .ok (.aload_n 0, 1) := by decide +kernel
theorem d_T_repeatsAnEarlierOne_44 : decode prog_5_method_22_code 44 = .ok (.getfield 18, 3) := by decide +kernel
theorem d_T_repeatsAnEarlierOne_47 : decode prog_5_method_22_code 47 = .ok (.iload_n 1, 1) := by decide +kernel
theorem d_T_repeatsAnEarlierOne_48 : decode prog_5_method_22_code 48 = .ok (.iaload, 1) := by decide +kernel
theorem d_T_repeatsAnEarlierOne_49 : decode prog_5_method_22_code 49 = .ok (.if_icmp .ne 5, 3) := by decide +kernel
theorem d_T_repeatsAnEarlierOne_52 : decode prog_5_method_22_code 52 = .ok (.iconst 1, 1) := by decide +kernel
theorem d_T_repeatsAnEarlierOne_53 : decode prog_5_method_22_code 53 = .ok (.ireturn, 1) := by decide +kernel
theorem d_T_repeatsAnEarlierOne_54 : decode prog_5_method_22_code 54 = .ok (.iinc 2 1, 3) := by decide +kernel
theorem d_T_repeatsAnEarlierOne_57 : decode prog_5_method_22_code 57 = .ok (.goto (-55), 3) := by decide +kernel
theorem d_T_repeatsAnEarlierOne_60 : decode prog_5_method_22_code 60 = .ok (.iconst 0, 1) := by decide +kernel
theorem d_T_repeatsAnEarlierOne_61 : decode prog_5_method_22_code 61 = .ok (.ireturn, 1) := by decide +kernel
abbrev y_X_add : MethodName := ⟨"FrameTables$Text", "add", "(C)V"⟩
abbrev m_X_add : MethodName × ByteArray × Nat × Option FieldType := (y_X_add, prog_6_method_6_code, 2, none)
theorem mi_X_add : .code y_X_add prog_6_method_6_code 2 none ∈ wT := wT_m 405 (by decide +kernel) rfl
theorem d_X_add_0 : decode prog_6_method_6_code 0 = .ok (.aload_n 0, 1) := by decide +kernel
theorem d_X_add_1 : decode prog_6_method_6_code 1 = .ok (.getfield 15, 3) := by decide +kernel
theorem d_X_add_4 : decode prog_6_method_6_code 4 = .ok (.sipush 2000, 3) := by decide +kernel
theorem d_X_add_7 : decode prog_6_method_6_code 7 = .ok (.if_icmp .lt 9, 3) := by decide +kernel
theorem d_X_add_10 : decode prog_6_method_6_code 10 = .ok (.aload_n 0, 1) := by decide +kernel
theorem d_X_add_11 : decode prog_6_method_6_code 11 = .ok (.iconst 1, 1) := by decide +kernel
theorem d_X_add_12 : decode prog_6_method_6_code 12 = .ok (.putfield 19, 3) := by decide +kernel
theorem d_X_add_15 : decode prog_6_method_6_code 15 = .ok (.return_, 1) := by decide +kernel
theorem d_X_add_16 : decode prog_6_method_6_code 16 = .ok (.aload_n 0, 1) := by decide +kernel
theorem d_X_add_17 : decode prog_6_method_6_code 17 = .ok (.getfield 9, 3) := by decide +kernel
theorem d_X_add_20 : decode prog_6_method_6_code 20 = .ok (.aload_n 0, 1) := by decide +kernel
theorem d_X_add_21 : decode prog_6_method_6_code 21 = .ok (.getfield 15, 3) := by decide +kernel
theorem d_X_add_24 : decode prog_6_method_6_code 24 = .ok (.iload_n 1, 1) := by decide +kernel
theorem d_X_add_25 : decode prog_6_method_6_code 25 = .ok (.castore, 1) := by decide +kernel
theorem d_X_add_26 : decode prog_6_method_6_code 26 = .ok (.aload_n 0, 1) := by decide +kernel
theorem d_X_add_27 : decode prog_6_method_6_code 27 = .ok (.dup, 1) := by decide +kernel
theorem d_X_add_28 : decode prog_6_method_6_code 28 = .ok (.getfield 15, 3) := by decide +kernel
theorem d_X_add_31 : decode prog_6_method_6_code 31 = .ok (.iconst 1, 1) := by decide +kernel
theorem d_X_add_32 : decode prog_6_method_6_code 32 = .ok (.iadd, 1) := by decide +kernel
theorem d_X_add_33 : decode prog_6_method_6_code 33 = .ok (.putfield 15, 3) := by decide +kernel
theorem d_X_add_36 : decode prog_6_method_6_code 36 = .ok (.return_, 1) := by decide +kernel
abbrev y_T_clear : MethodName := ⟨"FrameTables$Table", "clear", "()V"⟩
abbrev m_T_clear : MethodName × ByteArray × Nat × Option FieldType := (y_T_clear, prog_5_method_2_code, 1, none)
theorem mi_T_clear : .code y_T_clear prog_5_method_2_code 1 none ∈ wT := wT_m 417 (by decide +kernel) rfl
theorem d_T_clear_0 : decode prog_5_method_2_code 0 = .ok (.aload_n 0, 1) := by decide +kernel
theorem d_T_clear_1 : decode prog_5_method_2_code 1 = .ok (.iconst 0, 1) := by decide +kernel
theorem d_T_clear_2 : decode prog_5_method_2_code 2 = .ok (.putfield 30, 3) := by decide +kernel
theorem d_T_clear_5 : decode prog_5_method_2_code 5 = .ok (.return_, 1) := by decide +kernel
abbrev y_X_length : MethodName := ⟨"FrameTables$Text", "length", "()I"⟩
abbrev m_X_length : MethodName × ByteArray × Nat × Option FieldType := (y_X_length, prog_6_method_3_code, 1, some .int)
theorem mi_X_length : .code y_X_length prog_6_method_3_code 1 (some .int) ∈ wT := wT_m 421 (by decide +kernel) rfl
theorem d_X_length_0 : decode prog_6_method_3_code 0 = .ok (.aload_n 0, 1) := by decide +kernel
theorem d_X_length_1 : decode prog_6_method_3_code 1 = .ok (.getfield 15, 3) := by decide +kernel
theorem d_X_length_4 : decode prog_6_method_3_code 4 = .ok (.ireturn, 1) := by decide +kernel
abbrev y_X_signAt : MethodName := ⟨"FrameTables$Text", "signAt", "(I)I"⟩
abbrev m_X_signAt : MethodName × ByteArray × Nat × Option FieldType := (y_X_signAt, prog_6_method_5_code, 2, some .int)
theorem mi_X_signAt : .code y_X_signAt prog_6_method_5_code 2 (some .int) ∈ wT := wT_m 425 (by decide +kernel) rfl
theorem d_X_signAt_0 : decode prog_6_method_5_code 0 = .ok (.iload_n 1, 1) := by decide +kernel
theorem d_X_signAt_1 : decode prog_6_method_5_code 1 = .ok (.ifCond .lt 20, 3) := by decide +kernel
theorem d_X_signAt_4 : decode prog_6_method_5_code 4 = .ok (.iload_n 1, 1) := by decide +kernel
theorem d_X_signAt_5 : decode prog_6_method_5_code 5 = .ok (.aload_n 0, 1) := by decide +kernel
theorem d_X_signAt_6 : decode prog_6_method_5_code 6 = .ok (.getfield 15, 3) := by decide +kernel
theorem d_X_signAt_9 : decode prog_6_method_5_code 9 = .ok (.if_icmp .ge 12, 3) := by decide +kernel
theorem d_X_signAt_12 : decode prog_6_method_5_code 12 = .ok (.aload_n 0, 1) := by decide +kernel
theorem d_X_signAt_13 : decode prog_6_method_5_code 13 = .ok (.getfield 9, 3) := by decide +kernel
theorem d_X_signAt_16 : decode prog_6_method_5_code 16 = .ok (.iload_n 1, 1) := by decide +kernel
theorem d_X_signAt_17 : decode prog_6_method_5_code 17 = .ok (.caload, 1) := by decide +kernel
theorem d_X_signAt_18 : decode prog_6_method_5_code 18 = .ok (.goto 4, 3) := by decide +kernel
theorem d_X_signAt_21 : decode prog_6_method_5_code 21 = .ok (.iconst (-1), 1) := by decide +kernel
theorem d_X_signAt_22 : decode prog_6_method_5_code 22 = .ok (.ireturn, 1) := by decide +kernel
abbrev y_K_length : MethodName := ⟨"java/lang/String", "length", "()I"⟩
abbrev m_K_length : MethodName × ByteArray × Nat × Option FieldType := (y_K_length, prog_10_method_54_code, 1, some .int)
theorem mi_K_length : .code y_K_length prog_10_method_54_code 1 (some .int) ∈ wT := wT_m 442 (by decide +kernel) rfl
theorem d_K_length_0 : decode prog_10_method_54_code 0 = .ok (.aload_n 0, 1) := by decide +kernel
theorem d_K_length_1 : decode prog_10_method_54_code 1 = .ok (.getfield 9, 3) := by decide +kernel
theorem d_K_length_4 : decode prog_10_method_54_code 4 = .ok (.arraylength, 1) := by decide +kernel
theorem d_K_length_5 : decode prog_10_method_54_code 5 = .ok (.aload_n 0, 1) := by decide +kernel
theorem d_K_length_6 : decode prog_10_method_54_code 6 = .ok (.invokevirtual 335, 3) := by decide +kernel
theorem d_K_length_9 : decode prog_10_method_54_code 9 = .ok (.ishr, 1) := by decide +kernel
theorem d_K_length_10 : decode prog_10_method_54_code 10 = .ok (.ireturn, 1) := by decide +kernel
abbrev y_K_coder : MethodName := ⟨"java/lang/String", "coder", "()B"⟩
abbrev m_K_coder : MethodName × ByteArray × Nat × Option FieldType := (y_K_coder, prog_10_method_152_code, 1, some .byte)
theorem mi_K_coder : .code y_K_coder prog_10_method_152_code 1 (some .byte) ∈ wT := wT_m 446 (by decide +kernel) rfl
theorem d_K_coder_0 : decode prog_10_method_152_code 0 = .ok (.getstatic 38, 3) := by decide +kernel
theorem d_K_coder_3 : decode prog_10_method_152_code 3 = .ok (.ifCond .eq 10, 3) := by decide +kernel
theorem d_K_coder_6 : decode prog_10_method_152_code 6 = .ok (.aload_n 0, 1) := by decide +kernel
theorem d_K_coder_7 : decode prog_10_method_152_code 7 = .ok (.getfield 15, 3) := by decide +kernel
theorem d_K_coder_10 : decode prog_10_method_152_code 10 = .ok (.goto 4, 3) := by decide +kernel
theorem d_K_coder_13 : decode prog_10_method_152_code 13 = .ok (.iconst 1, 1) := by decide +kernel
theorem d_K_coder_14 : decode prog_10_method_152_code 14 = .ok (.ireturn, 1) := by decide +kernel
abbrev y_K_charAt : MethodName := ⟨"java/lang/String", "charAt", "(I)C"⟩
abbrev m_K_charAt : MethodName × ByteArray × Nat × Option FieldType := (y_K_charAt, prog_10_method_56_code, 2, some .char)
theorem mi_K_charAt : .code y_K_charAt prog_10_method_56_code 2 (some .char) ∈ wT := wT_m 452 (by decide +kernel) rfl
theorem d_K_charAt_0 : decode prog_10_method_56_code 0 = .ok (.aload_n 0, 1) := by decide +kernel
theorem d_K_charAt_1 : decode prog_10_method_56_code 1 = .ok (.invokevirtual 492, 3) := by decide +kernel
theorem d_K_charAt_4 : decode prog_10_method_56_code 4 = .ok (.ifCond .eq 12, 3) := by decide +kernel
theorem d_K_charAt_7 : decode prog_10_method_56_code 7 = .ok (.aload_n 0, 1) := by decide +kernel
theorem d_K_charAt_8 : decode prog_10_method_56_code 8 = .ok (.getfield 9, 3) := by decide +kernel
theorem d_K_charAt_11 : decode prog_10_method_56_code 11 = .ok (.iload_n 1, 1) := by decide +kernel
theorem d_K_charAt_12 : decode prog_10_method_56_code 12 = .ok (.invokestatic 495, 3) := by decide +kernel
theorem d_K_charAt_15 : decode prog_10_method_56_code 15 = .ok (.ireturn, 1) := by decide +kernel
theorem d_K_charAt_16 : decode prog_10_method_56_code 16 = .ok (.aload_n 0, 1) := by decide +kernel
theorem d_K_charAt_17 : decode prog_10_method_56_code 17 = .ok (.getfield 9, 3) := by decide +kernel
theorem d_K_charAt_20 : decode prog_10_method_56_code 20 = .ok (.iload_n 1, 1) := by decide +kernel
theorem d_K_charAt_21 : decode prog_10_method_56_code 21 = .ok (.invokestatic 498, 3) := by decide +kernel
theorem d_K_charAt_24 : decode prog_10_method_56_code 24 = .ok (.ireturn, 1) := by decide +kernel
abbrev y_K_isLatin1 : MethodName := ⟨"java/lang/String", "isLatin1", "()Z"⟩
abbrev m_K_isLatin1 : MethodName × ByteArray × Nat × Option FieldType := (y_K_isLatin1, prog_10_method_154_code, 1, some .boolean)
theorem mi_K_isLatin1 : .code y_K_isLatin1 prog_10_method_154_code 1 (some .boolean) ∈ wT := wT_m 456 (by decide +kernel) rfl
theorem d_K_isLatin1_0 : decode prog_10_method_154_code 0 = .ok (.getstatic 38, 3) := by decide +kernel
theorem d_K_isLatin1_3 : decode prog_10_method_154_code 3 = .ok (.ifCond .eq 14, 3) := by decide +kernel
theorem d_K_isLatin1_6 : decode prog_10_method_154_code 6 = .ok (.aload_n 0, 1) := by decide +kernel
theorem d_K_isLatin1_7 : decode prog_10_method_154_code 7 = .ok (.getfield 15, 3) := by decide +kernel
theorem d_K_isLatin1_10 : decode prog_10_method_154_code 10 = .ok (.ifCond .ne 7, 3) := by decide +kernel
theorem d_K_isLatin1_13 : decode prog_10_method_154_code 13 = .ok (.iconst 1, 1) := by decide +kernel
theorem d_K_isLatin1_14 : decode prog_10_method_154_code 14 = .ok (.goto 4, 3) := by decide +kernel
theorem d_K_isLatin1_17 : decode prog_10_method_154_code 17 = .ok (.iconst 0, 1) := by decide +kernel
theorem d_K_isLatin1_18 : decode prog_10_method_154_code 18 = .ok (.ireturn, 1) := by decide +kernel
abbrev y_L_charAt : MethodName := ⟨"java/lang/StringLatin1", "charAt", "([BI)C"⟩
abbrev m_L_charAt : MethodName × ByteArray × Nat × Option FieldType := (y_L_charAt, prog_11_method_2_code, 2, some .char)
theorem mi_L_charAt : .code y_L_charAt prog_11_method_2_code 2 (some .char) ∈ wT := wT_m 459 (by decide +kernel) rfl
theorem d_L_charAt_0 : decode prog_11_method_2_code 0 = .ok (.iload_n 1, 1) := by decide +kernel
theorem d_L_charAt_1 : decode prog_11_method_2_code 1 = .ok (.aload_n 0, 1) := by decide +kernel
theorem d_L_charAt_2 : decode prog_11_method_2_code 2 = .ok (.arraylength, 1) := by decide +kernel
theorem d_L_charAt_3 : decode prog_11_method_2_code 3 = .ok (.invokestatic 9, 3) := by decide +kernel
theorem d_L_charAt_6 : decode prog_11_method_2_code 6 = .ok (.aload_n 0, 1) := by decide +kernel
theorem d_L_charAt_7 : decode prog_11_method_2_code 7 = .ok (.iload_n 1, 1) := by decide +kernel
theorem d_L_charAt_8 : decode prog_11_method_2_code 8 = .ok (.baload, 1) := by decide +kernel
theorem d_L_charAt_9 : decode prog_11_method_2_code 9 = .ok (.sipush 255, 3) := by decide +kernel
theorem d_L_charAt_12 : decode prog_11_method_2_code 12 = .ok (.iand, 1) := by decide +kernel
theorem d_L_charAt_13 : decode prog_11_method_2_code 13 = .ok (.i2c, 1) := by decide +kernel
theorem d_L_charAt_14 : decode prog_11_method_2_code 14 = .ok (.ireturn, 1) := by decide +kernel
abbrev y_K_checkIndex : MethodName := ⟨"java/lang/String", "checkIndex", "(II)V"⟩
abbrev m_K_checkIndex : MethodName × ByteArray × Nat × Option FieldType := (y_K_checkIndex, prog_10_method_155_code, 2, none)
theorem mi_K_checkIndex : .code y_K_checkIndex prog_10_method_155_code 2 none ∈ wT := wT_m 462 (by decide +kernel) rfl
theorem d_K_checkIndex_0 : decode prog_10_method_155_code 0 = .ok (.iload_n 0, 1) := by decide +kernel
theorem d_K_checkIndex_1 : decode prog_10_method_155_code 1 = .ok (.iload_n 1, 1) := by decide +kernel
theorem d_K_checkIndex_2 : decode prog_10_method_155_code 2 = .ok (.getstatic 1053, 3) := by decide +kernel
theorem d_K_checkIndex_5 : decode prog_10_method_155_code 5 = .ok (.invokestatic 1059, 3) := by decide +kernel
theorem d_K_checkIndex_8 : decode prog_10_method_155_code 8 = .ok (.pop, 1) := by decide +kernel
theorem d_K_checkIndex_9 : decode prog_10_method_155_code 9 = .ok (.return_, 1) := by decide +kernel
abbrev y_J_checkIndex : MethodName := ⟨"jdk/internal/util/Preconditions", "checkIndex", "(IILjava/util/function/BiFunction;)I"⟩
abbrev m_J_checkIndex : MethodName × ByteArray × Nat × Option FieldType := (y_J_checkIndex, prog_13_method_11_code, 3, some .int)
theorem mi_J_checkIndex : .code y_J_checkIndex prog_13_method_11_code 3 (some .int) ∈ wT := wT_m 467 (by decide +kernel) rfl
theorem d_J_checkIndex_0 : decode prog_13_method_11_code 0 = .ok (.iload_n 0, 1) := by decide +kernel
theorem d_J_checkIndex_1 : decode prog_13_method_11_code 1 = .ok (.ifCond .lt 8, 3) := by decide +kernel
theorem d_J_checkIndex_4 : decode prog_13_method_11_code 4 = .ok (.iload_n 0, 1) := by decide +kernel
theorem d_J_checkIndex_5 : decode prog_13_method_11_code 5 = .ok (.iload_n 1, 1) := by decide +kernel
theorem d_J_checkIndex_6 : decode prog_13_method_11_code 6 = .ok (.if_icmp .lt 10, 3) := by decide +kernel
theorem d_J_checkIndex_9 : decode prog_13_method_11_code 9 = .ok (.aload_n 2, 1) := by decide +kernel
theorem d_J_checkIndex_10 : decode prog_13_method_11_code 10 = .ok (.iload_n 0, 1) := by decide +kernel
theorem d_J_checkIndex_11 : decode prog_13_method_11_code 11 = .ok (.iload_n 1, 1) := by decide +kernel
theorem d_J_checkIndex_16 : decode prog_13_method_11_code 16 = .ok (.iload_n 0, 1) := by decide +kernel
theorem d_J_checkIndex_17 : decode prog_13_method_11_code 17 = .ok (.ireturn, 1) := by decide +kernel
abbrev y_X_clear : MethodName := ⟨"FrameTables$Text", "clear", "()V"⟩
abbrev m_X_clear : MethodName × ByteArray × Nat × Option FieldType := (y_X_clear, prog_6_method_2_code, 1, none)
theorem mi_X_clear : .code y_X_clear prog_6_method_2_code 1 none ∈ wT := wT_m 515 (by decide +kernel) rfl
theorem d_X_clear_0 : decode prog_6_method_2_code 0 = .ok (.aload_n 0, 1) := by decide +kernel
theorem d_X_clear_1 : decode prog_6_method_2_code 1 = .ok (.iconst 0, 1) := by decide +kernel
theorem d_X_clear_2 : decode prog_6_method_2_code 2 = .ok (.putfield 15, 3) := by decide +kernel
theorem d_X_clear_5 : decode prog_6_method_2_code 5 = .ok (.aload_n 0, 1) := by decide +kernel
theorem d_X_clear_6 : decode prog_6_method_2_code 6 = .ok (.iconst 0, 1) := by decide +kernel
theorem d_X_clear_7 : decode prog_6_method_2_code 7 = .ok (.putfield 19, 3) := by decide +kernel
theorem d_X_clear_10 : decode prog_6_method_2_code 10 = .ok (.return_, 1) := by decide +kernel
abbrev y_X_addWord : MethodName := ⟨"FrameTables$Text", "addWord", "(Ljava/lang/String;)V"⟩
abbrev m_X_addWord : MethodName × ByteArray × Nat × Option FieldType := (y_X_addWord, prog_6_method_7_code, 3, none)
theorem mi_X_addWord : .code y_X_addWord prog_6_method_7_code 3 none ∈ wT := wT_m 529 (by decide +kernel) rfl
theorem d_X_addWord_0 : decode prog_6_method_7_code 0 = .ok (.iconst 0, 1) := by decide +kernel
theorem d_X_addWord_1 : decode prog_6_method_7_code 1 = .ok (.istore_n 2, 1) := by decide +kernel
theorem d_X_addWord_2 : decode prog_6_method_7_code 2 = .ok (.iload_n 2, 1) := by decide +kernel
theorem d_X_addWord_3 : decode prog_6_method_7_code 3 = .ok (.aload_n 1, 1) := by decide +kernel
theorem d_X_addWord_4 : decode prog_6_method_7_code 4 = .ok (.invokevirtual 23, 3) := by decide +kernel
theorem d_X_addWord_7 : decode prog_6_method_7_code 7 = .ok (.if_icmp .ge 18, 3) := by decide +kernel
theorem d_X_addWord_10 : decode prog_6_method_7_code 10 = .ok (.aload_n 0, 1) := by decide +kernel
theorem d_X_addWord_11 : decode prog_6_method_7_code 11 = .ok (.aload_n 1, 1) := by decide +kernel
theorem d_X_addWord_12 : decode prog_6_method_7_code 12 = .ok (.iload_n 2, 1) := by decide +kernel
theorem d_X_addWord_13 : decode prog_6_method_7_code 13 = .ok (.invokevirtual 28, 3) := by decide +kernel
theorem d_X_addWord_16 : decode prog_6_method_7_code 16 = .ok (.invokevirtual 32, 3) := by decide +kernel
theorem d_X_addWord_19 : decode prog_6_method_7_code 19 = .ok (.iinc 2 1, 3) := by decide +kernel
theorem d_X_addWord_22 : decode prog_6_method_7_code 22 = .ok (.goto (-20), 3) := by decide +kernel
theorem d_X_addWord_25 : decode prog_6_method_7_code 25 = .ok (.return_, 1) := by decide +kernel
abbrev y_X_addNumber : MethodName := ⟨"FrameTables$Text", "addNumber", "(I)V"⟩
abbrev m_X_addNumber : MethodName × ByteArray × Nat × Option FieldType := (y_X_addNumber, prog_6_method_8_code, 4, none)
theorem mi_X_addNumber : .code y_X_addNumber prog_6_method_8_code 4 none ∈ wT := wT_m 536 (by decide +kernel) rfl
theorem d_X_addNumber_0 : decode prog_6_method_8_code 0 = .ok (.aload_n 0, 1) := by decide +kernel
theorem d_X_addNumber_1 : decode prog_6_method_8_code 1 = .ok (.bipush 32, 2) := by decide +kernel
theorem d_X_addNumber_3 : decode prog_6_method_8_code 3 = .ok (.invokevirtual 32, 3) := by decide +kernel
theorem d_X_addNumber_6 : decode prog_6_method_8_code 6 = .ok (.iconst 1, 1) := by decide +kernel
theorem d_X_addNumber_7 : decode prog_6_method_8_code 7 = .ok (.istore_n 2, 1) := by decide +kernel
theorem d_X_addNumber_8 : decode prog_6_method_8_code 8 = .ok (.iload_n 2, 1) := by decide +kernel
theorem d_X_addNumber_9 : decode prog_6_method_8_code 9 = .ok (.iload_n 1, 1) := by decide +kernel
theorem d_X_addNumber_10 : decode prog_6_method_8_code 10 = .ok (.bipush 10, 2) := by decide +kernel
theorem d_X_addNumber_12 : decode prog_6_method_8_code 12 = .ok (.idiv, 1) := by decide +kernel
theorem d_X_addNumber_13 : decode prog_6_method_8_code 13 = .ok (.if_icmp .gt 11, 3) := by decide +kernel
theorem d_X_addNumber_16 : decode prog_6_method_8_code 16 = .ok (.iload_n 2, 1) := by decide +kernel
theorem d_X_addNumber_17 : decode prog_6_method_8_code 17 = .ok (.bipush 10, 2) := by decide +kernel
theorem d_X_addNumber_19 : decode prog_6_method_8_code 19 = .ok (.imul, 1) := by decide +kernel
theorem d_X_addNumber_20 : decode prog_6_method_8_code 20 = .ok (.istore_n 2, 1) := by decide +kernel
theorem d_X_addNumber_21 : decode prog_6_method_8_code 21 = .ok (.goto (-13), 3) := by decide +kernel
theorem d_X_addNumber_24 : decode prog_6_method_8_code 24 = .ok (.iload_n 2, 1) := by decide +kernel
theorem d_X_addNumber_25 : decode prog_6_method_8_code 25 = .ok (.istore_n 3, 1) := by decide +kernel
theorem d_X_addNumber_26 : decode prog_6_method_8_code 26 = .ok (.iload_n 3, 1) := by decide +kernel
theorem d_X_addNumber_27 : decode prog_6_method_8_code 27 = .ok (.ifCond .le 25, 3) := by decide +kernel
theorem d_X_addNumber_30 : decode prog_6_method_8_code 30 = .ok (.aload_n 0, 1) := by decide +kernel
theorem d_X_addNumber_31 : decode prog_6_method_8_code 31 = .ok (.bipush 48, 2) := by decide +kernel
theorem d_X_addNumber_33 : decode prog_6_method_8_code 33 = .ok (.iload_n 1, 1) := by decide +kernel
theorem d_X_addNumber_34 : decode prog_6_method_8_code 34 = .ok (.iload_n 3, 1) := by decide +kernel
theorem d_X_addNumber_35 : decode prog_6_method_8_code 35 = .ok (.idiv, 1) := by decide +kernel
theorem d_X_addNumber_36 : decode prog_6_method_8_code 36 = .ok (.bipush 10, 2) := by decide +kernel
theorem d_X_addNumber_38 : decode prog_6_method_8_code 38 = .ok (.irem, 1) := by decide +kernel
theorem d_X_addNumber_39 : decode prog_6_method_8_code 39 = .ok (.iadd, 1) := by decide +kernel
theorem d_X_addNumber_40 : decode prog_6_method_8_code 40 = .ok (.i2c, 1) := by decide +kernel
theorem d_X_addNumber_41 : decode prog_6_method_8_code 41 = .ok (.invokevirtual 32, 3) := by decide +kernel
theorem d_X_addNumber_44 : decode prog_6_method_8_code 44 = .ok (.iload_n 3, 1) := by decide +kernel
theorem d_X_addNumber_45 : decode prog_6_method_8_code 45 = .ok (.bipush 10, 2) := by decide +kernel
theorem d_X_addNumber_47 : decode prog_6_method_8_code 47 = .ok (.idiv, 1) := by decide +kernel
theorem d_X_addNumber_48 : decode prog_6_method_8_code 48 = .ok (.istore_n 3, 1) := by decide +kernel
theorem d_X_addNumber_49 : decode prog_6_method_8_code 49 = .ok (.goto (-23), 3) := by decide +kernel
theorem d_X_addNumber_52 : decode prog_6_method_8_code 52 = .ok (.return_, 1) := by decide +kernel
abbrev y_T_rankOf : MethodName := ⟨"FrameTables$Table", "rankOf", "(I)I"⟩
abbrev m_T_rankOf : MethodName × ByteArray × Nat × Option FieldType := (y_T_rankOf, prog_5_method_9_code, 2, some .int)
theorem mi_T_rankOf : .code y_T_rankOf prog_5_method_9_code 2 (some .int) ∈ wT := wT_m 540 (by decide +kernel) rfl
theorem d_T_rankOf_0 : decode prog_5_method_9_code 0 = .ok (.aload_n 0, 1) := by decide +kernel
theorem d_T_rankOf_1 : decode prog_5_method_9_code 1 = .ok (.getfield 18, 3) := by decide +kernel
theorem d_T_rankOf_4 : decode prog_5_method_9_code 4 = .ok (.iload_n 1, 1) := by decide +kernel
theorem d_T_rankOf_5 : decode prog_5_method_9_code 5 = .ok (.iaload, 1) := by decide +kernel
theorem d_T_rankOf_6 : decode prog_5_method_9_code 6 = .ok (.ireturn, 1) := by decide +kernel
abbrev y_T_gapOf : MethodName := ⟨"FrameTables$Table", "gapOf", "(I)I"⟩
abbrev m_T_gapOf : MethodName × ByteArray × Nat × Option FieldType := (y_T_gapOf, prog_5_method_11_code, 2, some .int)
theorem mi_T_gapOf : .code y_T_gapOf prog_5_method_11_code 2 (some .int) ∈ wT := wT_m 544 (by decide +kernel) rfl
theorem d_T_gapOf_0 : decode prog_5_method_11_code 0 = .ok (.aload_n 0, 1) := by decide +kernel
theorem d_T_gapOf_1 : decode prog_5_method_11_code 1 = .ok (.getfield 21, 3) := by decide +kernel
theorem d_T_gapOf_4 : decode prog_5_method_11_code 4 = .ok (.iload_n 1, 1) := by decide +kernel
theorem d_T_gapOf_5 : decode prog_5_method_11_code 5 = .ok (.iaload, 1) := by decide +kernel
theorem d_T_gapOf_6 : decode prog_5_method_11_code 6 = .ok (.ireturn, 1) := by decide +kernel
abbrev y_X_hasLostSigns : MethodName := ⟨"FrameTables$Text", "hasLostSigns", "()Z"⟩
abbrev m_X_hasLostSigns : MethodName × ByteArray × Nat × Option FieldType := (y_X_hasLostSigns, prog_6_method_4_code, 1, some .boolean)
theorem mi_X_hasLostSigns : .code y_X_hasLostSigns prog_6_method_4_code 1 (some .boolean) ∈ wT := wT_m 551 (by decide +kernel) rfl
theorem d_X_hasLostSigns_0 : decode prog_6_method_4_code 0 = .ok (.aload_n 0, 1) := by decide +kernel
theorem d_X_hasLostSigns_1 : decode prog_6_method_4_code 1 = .ok (.getfield 19, 3) := by decide +kernel
theorem d_X_hasLostSigns_4 : decode prog_6_method_4_code 4 = .ok (.ireturn, 1) := by decide +kernel
abbrev y_T_touches : MethodName := ⟨"FrameTables$Table", "touches", "(II)Z"⟩
abbrev m_T_touches : MethodName × ByteArray × Nat × Option FieldType := (y_T_touches, prog_5_method_18_code, 3, some .boolean)
theorem mi_T_touches : .code y_T_touches prog_5_method_18_code 3 (some .boolean) ∈ wT := wT_m 565 (by decide +kernel) rfl
theorem d_T_touches_0 : decode prog_5_method_18_code 0 = .ok (.aload_n 0, 1) := by decide +kernel
theorem d_T_touches_1 : decode prog_5_method_18_code 1 = .ok (.getfield 9, 3) := by decide +kernel
theorem d_T_touches_4 : decode prog_5_method_18_code 4 = .ok (.iload_n 1, 1) := by decide +kernel
theorem d_T_touches_5 : decode prog_5_method_18_code 5 = .ok (.iaload, 1) := by decide +kernel
theorem d_T_touches_6 : decode prog_5_method_18_code 6 = .ok (.iload_n 2, 1) := by decide +kernel
theorem d_T_touches_7 : decode prog_5_method_18_code 7 = .ok (.if_icmp .eq 12, 3) := by decide +kernel
theorem d_T_touches_10 : decode prog_5_method_18_code 10 = .ok (.aload_n 0, 1) := by decide +kernel
theorem d_T_touches_11 : decode prog_5_method_18_code 11 = .ok (.iload_n 1, 1) := by decide +kernel
theorem d_T_touches_12 : decode prog_5_method_18_code 12 = .ok (.iload_n 2, 1) := by decide +kernel
theorem d_T_touches_13 : decode prog_5_method_18_code 13 = .ok (.invokevirtual 46, 3) := by decide +kernel
theorem d_T_touches_16 : decode prog_5_method_18_code 16 = .ok (.ifCond .eq 7, 3) := by decide +kernel
theorem d_T_touches_19 : decode prog_5_method_18_code 19 = .ok (.iconst 1, 1) := by decide +kernel
theorem d_T_touches_20 : decode prog_5_method_18_code 20 = .ok (.goto 4, 3) := by decide +kernel
theorem d_T_touches_23 : decode prog_5_method_18_code 23 = .ok (.iconst 0, 1) := by decide +kernel
theorem d_T_touches_24 : decode prog_5_method_18_code 24 = .ok (.ireturn, 1) := by decide +kernel
end
section
abbrev y_F_init : MethodName := ⟨"FrameTables", "<init>", "()V"⟩
abbrev m_F_init : MethodName × ByteArray × Nat × Option FieldType := (y_F_init, prog_1_method_1_code, 1, none)
theorem mi_F_init : .code y_F_init prog_1_method_1_code 1 none ∈ wT := wT_m 57 (by decide +kernel) rfl
theorem d_F_init_0 : decode prog_1_method_1_code 0 = .ok (.aload_n 0, 1) := by decide +kernel
theorem d_F_init_1 : decode prog_1_method_1_code 1 = .ok (.invokespecial 1, 3) := by decide +kernel
theorem d_F_init_4 : decode prog_1_method_1_code 4 = .ok (.aload_n 0, 1) := by decide +kernel
theorem d_F_init_5 : decode prog_1_method_1_code 5 = .ok (.new 7, 3) := by decide +kernel
theorem d_F_init_8 : decode prog_1_method_1_code 8 = .ok (.dup, 1) := by decide +kernel
theorem d_F_init_9 : decode prog_1_method_1_code 9 = .ok (.invokespecial 9, 3) := by decide +kernel
theorem d_F_init_12 : decode prog_1_method_1_code 12 = .ok (.putfield 10, 3) := by decide +kernel
theorem d_F_init_15 : decode prog_1_method_1_code 15 = .ok (.aload_n 0, 1) := by decide +kernel
theorem d_F_init_16 : decode prog_1_method_1_code 16 = .ok (.new 7, 3) := by decide +kernel
theorem d_F_init_19 : decode prog_1_method_1_code 19 = .ok (.dup, 1) := by decide +kernel
theorem d_F_init_20 : decode prog_1_method_1_code 20 = .ok (.invokespecial 9, 3) := by decide +kernel
theorem d_F_init_23 : decode prog_1_method_1_code 23 = .ok (.putfield 16, 3) := by decide +kernel
theorem d_F_init_26 : decode prog_1_method_1_code 26 = .ok (.aload_n 0, 1) := by decide +kernel
theorem d_F_init_27 : decode prog_1_method_1_code 27 = .ok (.new 19, 3) := by decide +kernel
theorem d_F_init_30 : decode prog_1_method_1_code 30 = .ok (.dup, 1) := by decide +kernel
theorem d_F_init_31 : decode prog_1_method_1_code 31 = .ok (.invokespecial 21, 3) := by decide +kernel
theorem d_F_init_34 : decode prog_1_method_1_code 34 = .ok (.putfield 22, 3) := by decide +kernel
theorem d_F_init_37 : decode prog_1_method_1_code 37 = .ok (.aload_n 0, 1) := by decide +kernel
theorem d_F_init_38 : decode prog_1_method_1_code 38 = .ok (.new 26, 3) := by decide +kernel
theorem d_F_init_41 : decode prog_1_method_1_code 41 = .ok (.dup, 1) := by decide +kernel
theorem d_F_init_42 : decode prog_1_method_1_code 42 = .ok (.invokespecial 28, 3) := by decide +kernel
theorem d_F_init_45 : decode prog_1_method_1_code 45 = .ok (.putfield 29, 3) := by decide +kernel
theorem d_F_init_48 : decode prog_1_method_1_code 48 = .ok (.aload_n 0, 1) := by decide +kernel
theorem d_F_init_49 : decode prog_1_method_1_code 49 = .ok (.new 33, 3) := by decide +kernel
theorem d_F_init_52 : decode prog_1_method_1_code 52 = .ok (.dup, 1) := by decide +kernel
theorem d_F_init_53 : decode prog_1_method_1_code 53 = .ok (.aload_n 0, 1) := by decide +kernel
theorem d_F_init_54 : decode prog_1_method_1_code 54 = .ok (.getfield 29, 3) := by decide +kernel
theorem d_F_init_57 : decode prog_1_method_1_code 57 = .ok (.invokespecial 35, 3) := by decide +kernel
theorem d_F_init_60 : decode prog_1_method_1_code 60 = .ok (.putfield 38, 3) := by decide +kernel
theorem d_F_init_63 : decode prog_1_method_1_code 63 = .ok (.aload_n 0, 1) := by decide +kernel
theorem d_F_init_64 : decode prog_1_method_1_code 64 = .ok (.new 42, 3) := by decide +kernel
theorem d_F_init_67 : decode prog_1_method_1_code 67 = .ok (.dup, 1) := by decide +kernel
theorem d_F_init_68 : decode prog_1_method_1_code 68 = .ok (.invokespecial 44, 3) := by decide +kernel
theorem d_F_init_71 : decode prog_1_method_1_code 71 = .ok (.putfield 45, 3) := by decide +kernel
theorem d_F_init_74 : decode prog_1_method_1_code 74 = .ok (.aload_n 0, 1) := by decide +kernel
theorem d_F_init_75 : decode prog_1_method_1_code 75 = .ok (.iconst 0, 1) := by decide +kernel
theorem d_F_init_76 : decode prog_1_method_1_code 76 = .ok (.putfield 49, 3) := by decide +kernel
theorem d_F_init_79 : decode prog_1_method_1_code 79 = .ok (.return_, 1) := by decide +kernel
abbrev y_P_init : MethodName := ⟨"FrameTables$Parser", "<init>", "(LFrameTables$Text;)V"⟩
abbrev m_P_init : MethodName × ByteArray × Nat × Option FieldType := (y_P_init, prog_2_method_1_code, 2, none)
theorem mi_P_init : .code y_P_init prog_2_method_1_code 2 none ∈ wT := wT_m 124 (by decide +kernel) rfl
theorem d_P_init_0 : decode prog_2_method_1_code 0 = .ok (.aload_n 0, 1) := by decide +kernel
theorem d_P_init_1 : decode prog_2_method_1_code 1 = .ok (.invokespecial 3, 3) := by decide +kernel
theorem d_P_init_4 : decode prog_2_method_1_code 4 = .ok (.aload_n 0, 1) := by decide +kernel
theorem d_P_init_5 : decode prog_2_method_1_code 5 = .ok (.iconst 0, 1) := by decide +kernel
theorem d_P_init_6 : decode prog_2_method_1_code 6 = .ok (.putfield 9, 3) := by decide +kernel
theorem d_P_init_9 : decode prog_2_method_1_code 9 = .ok (.aload_n 0, 1) := by decide +kernel
theorem d_P_init_10 : decode prog_2_method_1_code 10 = .ok (.iconst 0, 1) := by decide +kernel
theorem d_P_init_11 : decode prog_2_method_1_code 11 = .ok (.putfield 15, 3) := by decide +kernel
theorem d_P_init_14 : decode prog_2_method_1_code 14 = .ok (.aload_n 0, 1) := by decide +kernel
theorem d_P_init_15 : decode prog_2_method_1_code 15 = .ok (.iconst 0, 1) := by decide +kernel
theorem d_P_init_16 : decode prog_2_method_1_code 16 = .ok (.putfield 18, 3) := by decide +kernel
theorem d_P_init_19 : decode prog_2_method_1_code 19 = .ok (.aload_n 0, 1) := by decide +kernel
theorem d_P_init_20 : decode prog_2_method_1_code 20 = .ok (.aload_n 1, 1) := by decide +kernel
theorem d_P_init_21 : decode prog_2_method_1_code 21 = .ok (.putfield 21, 3) := by decide +kernel
theorem d_P_init_24 : decode prog_2_method_1_code 24 = .ok (.return_, 1) := by decide +kernel
abbrev y_F_frame : MethodName := ⟨"FrameTables", "frame", "(III)I"⟩
abbrev m_F_frame : MethodName × ByteArray × Nat × Option FieldType := (y_F_frame, prog_1_method_2_code, 4, some .int)
theorem mi_F_frame : .code y_F_frame prog_1_method_2_code 4 (some .int) ∈ wT := wT_m 198 (by decide +kernel) rfl
theorem d_F_frame_0 : decode prog_1_method_2_code 0 = .ok (.iload_n 1, 1) := by decide +kernel
theorem d_F_frame_1 : decode prog_1_method_2_code 1 = .ok (.invokestatic 53, 3) := by decide +kernel
theorem d_F_frame_4 : decode prog_1_method_2_code 4 = .ok (.ifCond .eq 17, 3) := by decide +kernel
theorem d_F_frame_7 : decode prog_1_method_2_code 7 = .ok (.iload_n 2, 1) := by decide +kernel
theorem d_F_frame_8 : decode prog_1_method_2_code 8 = .ok (.invokestatic 57, 3) := by decide +kernel
theorem d_F_frame_11 : decode prog_1_method_2_code 11 = .ok (.ifCond .eq 10, 3) := by decide +kernel
theorem d_F_frame_14 : decode prog_1_method_2_code 14 = .ok (.iload_n 3, 1) := by decide +kernel
theorem d_F_frame_15 : decode prog_1_method_2_code 15 = .ok (.invokestatic 60, 3) := by decide +kernel
theorem d_F_frame_18 : decode prog_1_method_2_code 18 = .ok (.ifCond .ne 6, 3) := by decide +kernel
theorem d_F_frame_21 : decode prog_1_method_2_code 21 = .ok (.bipush (-2), 2) := by decide +kernel
theorem d_F_frame_23 : decode prog_1_method_2_code 23 = .ok (.ireturn, 1) := by decide +kernel
theorem d_F_frame_24 : decode prog_1_method_2_code 24 = .ok (.aload_n 0, 1) := by decide +kernel
theorem d_F_frame_25 : decode prog_1_method_2_code 25 = .ok (.getfield 10, 3) := by decide +kernel
theorem d_F_frame_28 : decode prog_1_method_2_code 28 = .ok (.invokevirtual 63, 3) := by decide +kernel
theorem d_F_frame_31 : decode prog_1_method_2_code 31 = .ok (.ifCond .eq 6, 3) := by decide +kernel
theorem d_F_frame_34 : decode prog_1_method_2_code 34 = .ok (.bipush (-4), 2) := by decide +kernel
theorem d_F_frame_36 : decode prog_1_method_2_code 36 = .ok (.ireturn, 1) := by decide +kernel
theorem d_F_frame_37 : decode prog_1_method_2_code 37 = .ok (.aload_n 0, 1) := by decide +kernel
theorem d_F_frame_38 : decode prog_1_method_2_code 38 = .ok (.iconst 0, 1) := by decide +kernel
theorem d_F_frame_39 : decode prog_1_method_2_code 39 = .ok (.putfield 49, 3) := by decide +kernel
theorem d_F_frame_42 : decode prog_1_method_2_code 42 = .ok (.aload_n 0, 1) := by decide +kernel
theorem d_F_frame_43 : decode prog_1_method_2_code 43 = .ok (.getfield 10, 3) := by decide +kernel
theorem d_F_frame_46 : decode prog_1_method_2_code 46 = .ok (.iload_n 1, 1) := by decide +kernel
theorem d_F_frame_47 : decode prog_1_method_2_code 47 = .ok (.iload_n 2, 1) := by decide +kernel
theorem d_F_frame_48 : decode prog_1_method_2_code 48 = .ok (.iload_n 3, 1) := by decide +kernel
theorem d_F_frame_49 : decode prog_1_method_2_code 49 = .ok (.iconst 0, 1) := by decide +kernel
theorem d_F_frame_50 : decode prog_1_method_2_code 50 = .ok (.invokevirtual 67, 3) := by decide +kernel
theorem d_F_frame_53 : decode prog_1_method_2_code 53 = .ok (.ireturn, 1) := by decide +kernel
abbrev y_F_isNode : MethodName := ⟨"FrameTables", "isNode", "(I)Z"⟩
abbrev m_F_isNode : MethodName × ByteArray × Nat × Option FieldType := (y_F_isNode, prog_1_method_16_code, 1, some .boolean)
theorem mi_F_isNode : .code y_F_isNode prog_1_method_16_code 1 (some .boolean) ∈ wT := wT_m 201 (by decide +kernel) rfl
theorem d_F_isNode_0 : decode prog_1_method_16_code 0 = .ok (.iload_n 0, 1) := by decide +kernel
theorem d_F_isNode_1 : decode prog_1_method_16_code 1 = .ok (.iconst 1, 1) := by decide +kernel
theorem d_F_isNode_2 : decode prog_1_method_16_code 2 = .ok (.if_icmp .lt 13, 3) := by decide +kernel
theorem d_F_isNode_5 : decode prog_1_method_16_code 5 = .ok (.iload_n 0, 1) := by decide +kernel
theorem d_F_isNode_6 : decode prog_1_method_16_code 6 = .ok (.bipush 20, 2) := by decide +kernel
theorem d_F_isNode_8 : decode prog_1_method_16_code 8 = .ok (.if_icmp .gt 7, 3) := by decide +kernel
theorem d_F_isNode_11 : decode prog_1_method_16_code 11 = .ok (.iconst 1, 1) := by decide +kernel
theorem d_F_isNode_12 : decode prog_1_method_16_code 12 = .ok (.goto 4, 3) := by decide +kernel
theorem d_F_isNode_15 : decode prog_1_method_16_code 15 = .ok (.iconst 0, 1) := by decide +kernel
theorem d_F_isNode_16 : decode prog_1_method_16_code 16 = .ok (.ireturn, 1) := by decide +kernel
abbrev y_F_isPeriod : MethodName := ⟨"FrameTables", "isPeriod", "(I)Z"⟩
abbrev m_F_isPeriod : MethodName × ByteArray × Nat × Option FieldType := (y_F_isPeriod, prog_1_method_17_code, 1, some .boolean)
theorem mi_F_isPeriod : .code y_F_isPeriod prog_1_method_17_code 1 (some .boolean) ∈ wT := wT_m 204 (by decide +kernel) rfl
theorem d_F_isPeriod_0 : decode prog_1_method_17_code 0 = .ok (.iload_n 0, 1) := by decide +kernel
theorem d_F_isPeriod_1 : decode prog_1_method_17_code 1 = .ok (.iconst 1, 1) := by decide +kernel
theorem d_F_isPeriod_2 : decode prog_1_method_17_code 2 = .ok (.if_icmp .lt 13, 3) := by decide +kernel
theorem d_F_isPeriod_5 : decode prog_1_method_17_code 5 = .ok (.iload_n 0, 1) := by decide +kernel
theorem d_F_isPeriod_6 : decode prog_1_method_17_code 6 = .ok (.bipush 60, 2) := by decide +kernel
theorem d_F_isPeriod_8 : decode prog_1_method_17_code 8 = .ok (.if_icmp .gt 7, 3) := by decide +kernel
theorem d_F_isPeriod_11 : decode prog_1_method_17_code 11 = .ok (.iconst 1, 1) := by decide +kernel
theorem d_F_isPeriod_12 : decode prog_1_method_17_code 12 = .ok (.goto 4, 3) := by decide +kernel
theorem d_F_isPeriod_15 : decode prog_1_method_17_code 15 = .ok (.iconst 0, 1) := by decide +kernel
theorem d_F_isPeriod_16 : decode prog_1_method_17_code 16 = .ok (.ireturn, 1) := by decide +kernel
abbrev y_F_isRank : MethodName := ⟨"FrameTables", "isRank", "(I)Z"⟩
abbrev m_F_isRank : MethodName × ByteArray × Nat × Option FieldType := (y_F_isRank, prog_1_method_18_code, 1, some .boolean)
theorem mi_F_isRank : .code y_F_isRank prog_1_method_18_code 1 (some .boolean) ∈ wT := wT_m 207 (by decide +kernel) rfl
theorem d_F_isRank_0 : decode prog_1_method_18_code 0 = .ok (.iload_n 0, 1) := by decide +kernel
theorem d_F_isRank_1 : decode prog_1_method_18_code 1 = .ok (.ifCond .lt 13, 3) := by decide +kernel
theorem d_F_isRank_4 : decode prog_1_method_18_code 4 = .ok (.iload_n 0, 1) := by decide +kernel
theorem d_F_isRank_5 : decode prog_1_method_18_code 5 = .ok (.bipush 99, 2) := by decide +kernel
theorem d_F_isRank_7 : decode prog_1_method_18_code 7 = .ok (.if_icmp .gt 7, 3) := by decide +kernel
theorem d_F_isRank_10 : decode prog_1_method_18_code 10 = .ok (.iconst 1, 1) := by decide +kernel
theorem d_F_isRank_11 : decode prog_1_method_18_code 11 = .ok (.goto 4, 3) := by decide +kernel
theorem d_F_isRank_14 : decode prog_1_method_18_code 14 = .ok (.iconst 0, 1) := by decide +kernel
theorem d_F_isRank_15 : decode prog_1_method_18_code 15 = .ok (.ireturn, 1) := by decide +kernel
abbrev y_F_reader : MethodName := ⟨"FrameTables", "reader", "(III)I"⟩
abbrev m_F_reader : MethodName × ByteArray × Nat × Option FieldType := (y_F_reader, prog_1_method_3_code, 4, some .int)
theorem mi_F_reader : .code y_F_reader prog_1_method_3_code 4 (some .int) ∈ wT := wT_m 224 (by decide +kernel) rfl
theorem d_F_reader_0 : decode prog_1_method_3_code 0 = .ok (.aload_n 0, 1) := by decide +kernel
theorem d_F_reader_1 : decode prog_1_method_3_code 1 = .ok (.getfield 10, 3) := by decide +kernel
theorem d_F_reader_4 : decode prog_1_method_3_code 4 = .ok (.iload_n 1, 1) := by decide +kernel
theorem d_F_reader_5 : decode prog_1_method_3_code 5 = .ok (.invokevirtual 71, 3) := by decide +kernel
theorem d_F_reader_8 : decode prog_1_method_3_code 8 = .ok (.ifCond .eq 10, 3) := by decide +kernel
theorem d_F_reader_11 : decode prog_1_method_3_code 11 = .ok (.iload_n 2, 1) := by decide +kernel
theorem d_F_reader_12 : decode prog_1_method_3_code 12 = .ok (.invokestatic 53, 3) := by decide +kernel
theorem d_F_reader_15 : decode prog_1_method_3_code 15 = .ok (.ifCond .ne 5, 3) := by decide +kernel
theorem d_F_reader_18 : decode prog_1_method_3_code 18 = .ok (.iconst (-1), 1) := by decide +kernel
theorem d_F_reader_19 : decode prog_1_method_3_code 19 = .ok (.ireturn, 1) := by decide +kernel
theorem d_F_reader_20 : decode prog_1_method_3_code 20 = .ok (.iload_n 3, 1) := by decide +kernel
theorem d_F_reader_21 : decode prog_1_method_3_code 21 = .ok (.ifCond .lt 10, 3) := by decide +kernel
theorem d_F_reader_24 : decode prog_1_method_3_code 24 = .ok (.iload_n 3, 1) := by decide +kernel
theorem d_F_reader_25 : decode prog_1_method_3_code 25 = .ok (.sipush 10000, 3) := by decide +kernel
theorem d_F_reader_28 : decode prog_1_method_3_code 28 = .ok (.if_icmp .le 6, 3) := by decide +kernel
theorem d_F_reader_31 : decode prog_1_method_3_code 31 = .ok (.bipush (-2), 2) := by decide +kernel
theorem d_F_reader_33 : decode prog_1_method_3_code 33 = .ok (.ireturn, 1) := by decide +kernel
theorem d_F_reader_34 : decode prog_1_method_3_code 34 = .ok (.aload_n 0, 1) := by decide +kernel
theorem d_F_reader_35 : decode prog_1_method_3_code 35 = .ok (.getfield 10, 3) := by decide +kernel
theorem d_F_reader_38 : decode prog_1_method_3_code 38 = .ok (.iload_n 1, 1) := by decide +kernel
theorem d_F_reader_39 : decode prog_1_method_3_code 39 = .ok (.invokevirtual 74, 3) := by decide +kernel
theorem d_F_reader_42 : decode prog_1_method_3_code 42 = .ok (.iload_n 2, 1) := by decide +kernel
theorem d_F_reader_43 : decode prog_1_method_3_code 43 = .ok (.if_icmp .ne 6, 3) := by decide +kernel
theorem d_F_reader_46 : decode prog_1_method_3_code 46 = .ok (.bipush (-3), 2) := by decide +kernel
theorem d_F_reader_48 : decode prog_1_method_3_code 48 = .ok (.ireturn, 1) := by decide +kernel
theorem d_F_reader_49 : decode prog_1_method_3_code 49 = .ok (.aload_n 0, 1) := by decide +kernel
theorem d_F_reader_50 : decode prog_1_method_3_code 50 = .ok (.getfield 10, 3) := by decide +kernel
theorem d_F_reader_53 : decode prog_1_method_3_code 53 = .ok (.iload_n 1, 1) := by decide +kernel
theorem d_F_reader_54 : decode prog_1_method_3_code 54 = .ok (.iload_n 2, 1) := by decide +kernel
theorem d_F_reader_55 : decode prog_1_method_3_code 55 = .ok (.iload_n 3, 1) := by decide +kernel
theorem d_F_reader_56 : decode prog_1_method_3_code 56 = .ok (.invokevirtual 78, 3) := by decide +kernel
theorem d_F_reader_59 : decode prog_1_method_3_code 59 = .ok (.aload_n 0, 1) := by decide +kernel
theorem d_F_reader_60 : decode prog_1_method_3_code 60 = .ok (.getfield 10, 3) := by decide +kernel
theorem d_F_reader_63 : decode prog_1_method_3_code 63 = .ok (.iload_n 1, 1) := by decide +kernel
theorem d_F_reader_64 : decode prog_1_method_3_code 64 = .ok (.invokevirtual 82, 3) := by decide +kernel
theorem d_F_reader_67 : decode prog_1_method_3_code 67 = .ok (.ireturn, 1) := by decide +kernel
abbrev y_F_identifier : MethodName := ⟨"FrameTables", "identifier", "(I)I"⟩
abbrev m_F_identifier : MethodName × ByteArray × Nat × Option FieldType := (y_F_identifier, prog_1_method_4_code, 3, some .int)
theorem mi_F_identifier : .code y_F_identifier prog_1_method_4_code 3 (some .int) ∈ wT := wT_m 249 (by decide +kernel) rfl
theorem d_F_identifier_0 : decode prog_1_method_4_code 0 = .ok (.aload_n 0, 1) := by decide +kernel
theorem d_F_identifier_1 : decode prog_1_method_4_code 1 = .ok (.getfield 10, 3) := by decide +kernel
theorem d_F_identifier_4 : decode prog_1_method_4_code 4 = .ok (.iload_n 1, 1) := by decide +kernel
theorem d_F_identifier_5 : decode prog_1_method_4_code 5 = .ok (.invokevirtual 71, 3) := by decide +kernel
theorem d_F_identifier_8 : decode prog_1_method_4_code 8 = .ok (.ifCond .ne 5, 3) := by decide +kernel
theorem d_F_identifier_11 : decode prog_1_method_4_code 11 = .ok (.iconst (-1), 1) := by decide +kernel
theorem d_F_identifier_12 : decode prog_1_method_4_code 12 = .ok (.ireturn, 1) := by decide +kernel
theorem d_F_identifier_13 : decode prog_1_method_4_code 13 = .ok (.aload_n 0, 1) := by decide +kernel
theorem d_F_identifier_14 : decode prog_1_method_4_code 14 = .ok (.iload_n 1, 1) := by decide +kernel
theorem d_F_identifier_15 : decode prog_1_method_4_code 15 = .ok (.invokevirtual 85, 3) := by decide +kernel
theorem d_F_identifier_18 : decode prog_1_method_4_code 18 = .ok (.istore_n 2, 1) := by decide +kernel
theorem d_F_identifier_19 : decode prog_1_method_4_code 19 = .ok (.iload_n 2, 1) := by decide +kernel
theorem d_F_identifier_20 : decode prog_1_method_4_code 20 = .ok (.iconst (-1), 1) := by decide +kernel
theorem d_F_identifier_21 : decode prog_1_method_4_code 21 = .ok (.if_icmp .ne 8, 3) := by decide +kernel
theorem d_F_identifier_24 : decode prog_1_method_4_code 24 = .ok (.bipush (-4), 2) := by decide +kernel
theorem d_F_identifier_26 : decode prog_1_method_4_code 26 = .ok (.goto 4, 3) := by decide +kernel
theorem d_F_identifier_29 : decode prog_1_method_4_code 29 = .ok (.iload_n 2, 1) := by decide +kernel
theorem d_F_identifier_30 : decode prog_1_method_4_code 30 = .ok (.ireturn, 1) := by decide +kernel
abbrev y_F_identifierOf : MethodName := ⟨"FrameTables", "identifierOf", "(I)I"⟩
abbrev m_F_identifierOf : MethodName × ByteArray × Nat × Option FieldType := (y_F_identifierOf, prog_1_method_20_code, 2, some .int)
theorem mi_F_identifierOf : .code y_F_identifierOf prog_1_method_20_code 2 (some .int) ∈ wT := wT_m 253 (by decide +kernel) rfl
theorem d_F_identifierOf_0 : decode prog_1_method_20_code 0 = .ok (.aload_n 0, 1) := by decide +kernel
theorem d_F_identifierOf_1 : decode prog_1_method_20_code 1 = .ok (.getfield 22, 3) := by decide +kernel
theorem d_F_identifierOf_4 : decode prog_1_method_20_code 4 = .ok (.aload_n 0, 1) := by decide +kernel
theorem d_F_identifierOf_5 : decode prog_1_method_20_code 5 = .ok (.getfield 10, 3) := by decide +kernel
theorem d_F_identifierOf_8 : decode prog_1_method_20_code 8 = .ok (.iload_n 1, 1) := by decide +kernel
theorem d_F_identifierOf_9 : decode prog_1_method_20_code 9 = .ok (.invokevirtual 161, 3) := by decide +kernel
theorem d_F_identifierOf_12 : decode prog_1_method_20_code 12 = .ok (.aload_n 0, 1) := by decide +kernel
theorem d_F_identifierOf_13 : decode prog_1_method_20_code 13 = .ok (.getfield 10, 3) := by decide +kernel
theorem d_F_identifierOf_16 : decode prog_1_method_20_code 16 = .ok (.iload_n 1, 1) := by decide +kernel
theorem d_F_identifierOf_17 : decode prog_1_method_20_code 17 = .ok (.invokevirtual 164, 3) := by decide +kernel
theorem d_F_identifierOf_20 : decode prog_1_method_20_code 20 = .ok (.invokevirtual 167, 3) := by decide +kernel
theorem d_F_identifierOf_23 : decode prog_1_method_20_code 23 = .ok (.ireturn, 1) := by decide +kernel
abbrev y_F_span : MethodName := ⟨"FrameTables", "span", "(III)I"⟩
abbrev m_F_span : MethodName × ByteArray × Nat × Option FieldType := (y_F_span, prog_1_method_5_code, 4, some .int)
theorem mi_F_span : .code y_F_span prog_1_method_5_code 4 (some .int) ∈ wT := wT_m 274 (by decide +kernel) rfl
theorem d_F_span_0 : decode prog_1_method_5_code 0 = .ok (.iload_n 1, 1) := by decide +kernel
theorem d_F_span_1 : decode prog_1_method_5_code 1 = .ok (.ifCond .lt 8, 3) := by decide +kernel
theorem d_F_span_4 : decode prog_1_method_5_code 4 = .ok (.iload_n 1, 1) := by decide +kernel
theorem d_F_span_5 : decode prog_1_method_5_code 5 = .ok (.iconst 4, 1) := by decide +kernel
theorem d_F_span_6 : decode prog_1_method_5_code 6 = .ok (.if_icmp .lt 5, 3) := by decide +kernel
theorem d_F_span_9 : decode prog_1_method_5_code 9 = .ok (.iconst (-1), 1) := by decide +kernel
theorem d_F_span_10 : decode prog_1_method_5_code 10 = .ok (.ireturn, 1) := by decide +kernel
theorem d_F_span_11 : decode prog_1_method_5_code 11 = .ok (.iload_n 2, 1) := by decide +kernel
theorem d_F_span_12 : decode prog_1_method_5_code 12 = .ok (.invokestatic 88, 3) := by decide +kernel
theorem d_F_span_15 : decode prog_1_method_5_code 15 = .ok (.ifCond .eq 15, 3) := by decide +kernel
theorem d_F_span_18 : decode prog_1_method_5_code 18 = .ok (.iload_n 3, 1) := by decide +kernel
theorem d_F_span_19 : decode prog_1_method_5_code 19 = .ok (.invokestatic 88, 3) := by decide +kernel
theorem d_F_span_22 : decode prog_1_method_5_code 22 = .ok (.ifCond .eq 8, 3) := by decide +kernel
theorem d_F_span_25 : decode prog_1_method_5_code 25 = .ok (.iload_n 3, 1) := by decide +kernel
theorem d_F_span_26 : decode prog_1_method_5_code 26 = .ok (.iload_n 2, 1) := by decide +kernel
theorem d_F_span_27 : decode prog_1_method_5_code 27 = .ok (.if_icmp .ge 6, 3) := by decide +kernel
theorem d_F_span_30 : decode prog_1_method_5_code 30 = .ok (.bipush (-2), 2) := by decide +kernel
theorem d_F_span_32 : decode prog_1_method_5_code 32 = .ok (.ireturn, 1) := by decide +kernel
theorem d_F_span_33 : decode prog_1_method_5_code 33 = .ok (.aload_n 0, 1) := by decide +kernel
theorem d_F_span_34 : decode prog_1_method_5_code 34 = .ok (.getfield 22, 3) := by decide +kernel
theorem d_F_span_37 : decode prog_1_method_5_code 37 = .ok (.iload_n 1, 1) := by decide +kernel
theorem d_F_span_38 : decode prog_1_method_5_code 38 = .ok (.iload_n 2, 1) := by decide +kernel
theorem d_F_span_39 : decode prog_1_method_5_code 39 = .ok (.iload_n 3, 1) := by decide +kernel
theorem d_F_span_40 : decode prog_1_method_5_code 40 = .ok (.invokevirtual 91, 3) := by decide +kernel
theorem d_F_span_43 : decode prog_1_method_5_code 43 = .ok (.ifCond .eq 6, 3) := by decide +kernel
theorem d_F_span_46 : decode prog_1_method_5_code 46 = .ok (.bipush (-3), 2) := by decide +kernel
theorem d_F_span_48 : decode prog_1_method_5_code 48 = .ok (.ireturn, 1) := by decide +kernel
theorem d_F_span_49 : decode prog_1_method_5_code 49 = .ok (.aload_n 0, 1) := by decide +kernel
theorem d_F_span_50 : decode prog_1_method_5_code 50 = .ok (.getfield 22, 3) := by decide +kernel
theorem d_F_span_53 : decode prog_1_method_5_code 53 = .ok (.iload_n 1, 1) := by decide +kernel
theorem d_F_span_54 : decode prog_1_method_5_code 54 = .ok (.iload_n 2, 1) := by decide +kernel
theorem d_F_span_55 : decode prog_1_method_5_code 55 = .ok (.iload_n 3, 1) := by decide +kernel
theorem d_F_span_56 : decode prog_1_method_5_code 56 = .ok (.invokevirtual 95, 3) := by decide +kernel
theorem d_F_span_59 : decode prog_1_method_5_code 59 = .ok (.iload_n 3, 1) := by decide +kernel
theorem d_F_span_60 : decode prog_1_method_5_code 60 = .ok (.iload_n 2, 1) := by decide +kernel
theorem d_F_span_61 : decode prog_1_method_5_code 61 = .ok (.isub, 1) := by decide +kernel
theorem d_F_span_62 : decode prog_1_method_5_code 62 = .ok (.iconst 1, 1) := by decide +kernel
theorem d_F_span_63 : decode prog_1_method_5_code 63 = .ok (.iadd, 1) := by decide +kernel
theorem d_F_span_64 : decode prog_1_method_5_code 64 = .ok (.ireturn, 1) := by decide +kernel
abbrev y_F_isIdentifier : MethodName := ⟨"FrameTables", "isIdentifier", "(I)Z"⟩
abbrev m_F_isIdentifier : MethodName × ByteArray × Nat × Option FieldType := (y_F_isIdentifier, prog_1_method_19_code, 1, some .boolean)
theorem mi_F_isIdentifier : .code y_F_isIdentifier prog_1_method_19_code 1 (some .boolean) ∈ wT := wT_m 277 (by decide +kernel) rfl
theorem d_F_isIdentifier_0 : decode prog_1_method_19_code 0 = .ok (.iload_n 0, 1) := by decide +kernel
theorem d_F_isIdentifier_1 : decode prog_1_method_19_code 1 = .ok (.ifCond .lt 14, 3) := by decide +kernel
theorem d_F_isIdentifier_4 : decode prog_1_method_19_code 4 = .ok (.iload_n 0, 1) := by decide +kernel
theorem d_F_isIdentifier_5 : decode prog_1_method_19_code 5 = .ok (.sipush 2048, 3) := by decide +kernel
theorem d_F_isIdentifier_8 : decode prog_1_method_19_code 8 = .ok (.if_icmp .ge 7, 3) := by decide +kernel
theorem d_F_isIdentifier_11 : decode prog_1_method_19_code 11 = .ok (.iconst 1, 1) := by decide +kernel
theorem d_F_isIdentifier_12 : decode prog_1_method_19_code 12 = .ok (.goto 4, 3) := by decide +kernel
theorem d_F_isIdentifier_15 : decode prog_1_method_19_code 15 = .ok (.iconst 0, 1) := by decide +kernel
theorem d_F_isIdentifier_16 : decode prog_1_method_19_code 16 = .ok (.ireturn, 1) := by decide +kernel
abbrev y_F_offset : MethodName := ⟨"FrameTables", "offset", "(J)I"⟩
abbrev m_F_offset : MethodName × ByteArray × Nat × Option FieldType := (y_F_offset, prog_1_method_6_code, 5, some .int)
theorem mi_F_offset : .code y_F_offset prog_1_method_6_code 5 (some .int) ∈ wT := wT_m 289 (by decide +kernel) rfl
theorem d_F_offset_0 : decode prog_1_method_6_code 0 = .ok (.lload_n 1, 1) := by decide +kernel
theorem d_F_offset_1 : decode prog_1_method_6_code 1 = .ok (.lconst 0, 1) := by decide +kernel
theorem d_F_offset_2 : decode prog_1_method_6_code 2 = .ok (.lcmp, 1) := by decide +kernel
theorem d_F_offset_3 : decode prog_1_method_6_code 3 = .ok (.ifCond .lt 11, 3) := by decide +kernel
theorem d_F_offset_6 : decode prog_1_method_6_code 6 = .ok (.lload_n 1, 1) := by decide +kernel
theorem d_F_offset_7 : decode prog_1_method_6_code 7 = .ok (.ldc2_w 98, 3) := by decide +kernel
theorem d_F_offset_10 : decode prog_1_method_6_code 10 = .ok (.lcmp, 1) := by decide +kernel
theorem d_F_offset_11 : decode prog_1_method_6_code 11 = .ok (.ifCond .le 6, 3) := by decide +kernel
theorem d_F_offset_14 : decode prog_1_method_6_code 14 = .ok (.bipush (-2), 2) := by decide +kernel
theorem d_F_offset_16 : decode prog_1_method_6_code 16 = .ok (.ireturn, 1) := by decide +kernel
theorem d_F_offset_17 : decode prog_1_method_6_code 17 = .ok (.aload_n 0, 1) := by decide +kernel
theorem d_F_offset_18 : decode prog_1_method_6_code 18 = .ok (.getfield 45, 3) := by decide +kernel
theorem d_F_offset_21 : decode prog_1_method_6_code 21 = .ok (.aload_n 0, 1) := by decide +kernel
theorem d_F_offset_22 : decode prog_1_method_6_code 22 = .ok (.getfield 10, 3) := by decide +kernel
theorem d_F_offset_25 : decode prog_1_method_6_code 25 = .ok (.invokevirtual 100, 3) := by decide +kernel
theorem d_F_offset_28 : decode prog_1_method_6_code 28 = .ok (.lconst 0, 1) := by decide +kernel
theorem d_F_offset_29 : decode prog_1_method_6_code 29 = .ok (.lstore_n 3, 1) := by decide +kernel
theorem d_F_offset_30 : decode prog_1_method_6_code 30 = .ok (.lload_n 3, 1) := by decide +kernel
theorem d_F_offset_31 : decode prog_1_method_6_code 31 = .ok (.lload_n 1, 1) := by decide +kernel
theorem d_F_offset_32 : decode prog_1_method_6_code 32 = .ok (.lcmp, 1) := by decide +kernel
theorem d_F_offset_33 : decode prog_1_method_6_code 33 = .ok (.ifCond .ge 27, 3) := by decide +kernel
theorem d_F_offset_36 : decode prog_1_method_6_code 36 = .ok (.aload_n 0, 1) := by decide +kernel
theorem d_F_offset_37 : decode prog_1_method_6_code 37 = .ok (.getfield 45, 3) := by decide +kernel
theorem d_F_offset_40 : decode prog_1_method_6_code 40 = .ok (.invokevirtual 104, 3) := by decide +kernel
theorem d_F_offset_43 : decode prog_1_method_6_code 43 = .ok (.ifCond .ne 17, 3) := by decide +kernel
theorem d_F_offset_46 : decode prog_1_method_6_code 46 = .ok (.aload_n 0, 1) := by decide +kernel
theorem d_F_offset_47 : decode prog_1_method_6_code 47 = .ok (.getfield 45, 3) := by decide +kernel
theorem d_F_offset_50 : decode prog_1_method_6_code 50 = .ok (.invokevirtual 107, 3) := by decide +kernel
theorem d_F_offset_53 : decode prog_1_method_6_code 53 = .ok (.lload_n 3, 1) := by decide +kernel
theorem d_F_offset_54 : decode prog_1_method_6_code 54 = .ok (.lconst 1, 1) := by decide +kernel
theorem d_F_offset_55 : decode prog_1_method_6_code 55 = .ok (.ladd, 1) := by decide +kernel
theorem d_F_offset_56 : decode prog_1_method_6_code 56 = .ok (.lstore_n 3, 1) := by decide +kernel
theorem d_F_offset_57 : decode prog_1_method_6_code 57 = .ok (.goto (-27), 3) := by decide +kernel
theorem d_F_offset_60 : decode prog_1_method_6_code 60 = .ok (.aload_n 0, 1) := by decide +kernel
theorem d_F_offset_61 : decode prog_1_method_6_code 61 = .ok (.getfield 45, 3) := by decide +kernel
theorem d_F_offset_64 : decode prog_1_method_6_code 64 = .ok (.aload_n 0, 1) := by decide +kernel
theorem d_F_offset_65 : decode prog_1_method_6_code 65 = .ok (.getfield 10, 3) := by decide +kernel
theorem d_F_offset_68 : decode prog_1_method_6_code 68 = .ok (.invokevirtual 110, 3) := by decide +kernel
theorem d_F_offset_71 : decode prog_1_method_6_code 71 = .ok (.aload_n 0, 1) := by decide +kernel
theorem d_F_offset_72 : decode prog_1_method_6_code 72 = .ok (.aload_n 0, 1) := by decide +kernel
theorem d_F_offset_73 : decode prog_1_method_6_code 73 = .ok (.getfield 45, 3) := by decide +kernel
theorem d_F_offset_76 : decode prog_1_method_6_code 76 = .ok (.invokevirtual 104, 3) := by decide +kernel
theorem d_F_offset_79 : decode prog_1_method_6_code 79 = .ok (.putfield 49, 3) := by decide +kernel
theorem d_F_offset_82 : decode prog_1_method_6_code 82 = .ok (.aload_n 0, 1) := by decide +kernel
theorem d_F_offset_83 : decode prog_1_method_6_code 83 = .ok (.getfield 45, 3) := by decide +kernel
theorem d_F_offset_86 : decode prog_1_method_6_code 86 = .ok (.aload_n 0, 1) := by decide +kernel
theorem d_F_offset_87 : decode prog_1_method_6_code 87 = .ok (.getfield 10, 3) := by decide +kernel
theorem d_F_offset_90 : decode prog_1_method_6_code 90 = .ok (.invokevirtual 113, 3) := by decide +kernel
theorem d_F_offset_93 : decode prog_1_method_6_code 93 = .ok (.ireturn, 1) := by decide +kernel
abbrev y_F_at : MethodName := ⟨"FrameTables", "at", "(I)I"⟩
abbrev m_F_at : MethodName × ByteArray × Nat × Option FieldType := (y_F_at, prog_1_method_7_code, 2, some .int)
theorem mi_F_at : .code y_F_at prog_1_method_7_code 2 (some .int) ∈ wT := wT_m 366 (by decide +kernel) rfl
theorem d_F_at_0 : decode prog_1_method_7_code 0 = .ok (.aload_n 0, 1) := by decide +kernel
theorem d_F_at_1 : decode prog_1_method_7_code 1 = .ok (.getfield 10, 3) := by decide +kernel
theorem d_F_at_4 : decode prog_1_method_7_code 4 = .ok (.iload_n 1, 1) := by decide +kernel
theorem d_F_at_5 : decode prog_1_method_7_code 5 = .ok (.invokevirtual 71, 3) := by decide +kernel
theorem d_F_at_8 : decode prog_1_method_7_code 8 = .ok (.ifCond .eq 14, 3) := by decide +kernel
theorem d_F_at_11 : decode prog_1_method_7_code 11 = .ok (.aload_n 0, 1) := by decide +kernel
theorem d_F_at_12 : decode prog_1_method_7_code 12 = .ok (.getfield 10, 3) := by decide +kernel
theorem d_F_at_15 : decode prog_1_method_7_code 15 = .ok (.iload_n 1, 1) := by decide +kernel
theorem d_F_at_16 : decode prog_1_method_7_code 16 = .ok (.invokevirtual 117, 3) := by decide +kernel
theorem d_F_at_19 : decode prog_1_method_7_code 19 = .ok (.goto 4, 3) := by decide +kernel
theorem d_F_at_22 : decode prog_1_method_7_code 22 = .ok (.iconst (-1), 1) := by decide +kernel
theorem d_F_at_23 : decode prog_1_method_7_code 23 = .ok (.ireturn, 1) := by decide +kernel
abbrev y_F_exact : MethodName := ⟨"FrameTables", "exact", "()Z"⟩
abbrev m_F_exact : MethodName × ByteArray × Nat × Option FieldType := (y_F_exact, prog_1_method_8_code, 1, some .boolean)
theorem mi_F_exact : .code y_F_exact prog_1_method_8_code 1 (some .boolean) ∈ wT := wT_m 371 (by decide +kernel) rfl
theorem d_F_exact_0 : decode prog_1_method_8_code 0 = .ok (.aload_n 0, 1) := by decide +kernel
theorem d_F_exact_1 : decode prog_1_method_8_code 1 = .ok (.getfield 49, 3) := by decide +kernel
theorem d_F_exact_4 : decode prog_1_method_8_code 4 = .ok (.ireturn, 1) := by decide +kernel
abbrev y_F_gap : MethodName := ⟨"FrameTables", "gap", "(II)I"⟩
abbrev m_F_gap : MethodName × ByteArray × Nat × Option FieldType := (y_F_gap, prog_1_method_9_code, 3, some .int)
theorem mi_F_gap : .code y_F_gap prog_1_method_9_code 3 (some .int) ∈ wT := wT_m 375 (by decide +kernel) rfl
theorem d_F_gap_0 : decode prog_1_method_9_code 0 = .ok (.aload_n 0, 1) := by decide +kernel
theorem d_F_gap_1 : decode prog_1_method_9_code 1 = .ok (.getfield 10, 3) := by decide +kernel
theorem d_F_gap_4 : decode prog_1_method_9_code 4 = .ok (.iload_n 1, 1) := by decide +kernel
theorem d_F_gap_5 : decode prog_1_method_9_code 5 = .ok (.invokevirtual 71, 3) := by decide +kernel
theorem d_F_gap_8 : decode prog_1_method_9_code 8 = .ok (.ifCond .ne 5, 3) := by decide +kernel
theorem d_F_gap_11 : decode prog_1_method_9_code 11 = .ok (.iconst (-1), 1) := by decide +kernel
theorem d_F_gap_12 : decode prog_1_method_9_code 12 = .ok (.ireturn, 1) := by decide +kernel
theorem d_F_gap_13 : decode prog_1_method_9_code 13 = .ok (.iload_n 2, 1) := by decide +kernel
theorem d_F_gap_14 : decode prog_1_method_9_code 14 = .ok (.ifCond .lt 15, 3) := by decide +kernel
theorem d_F_gap_17 : decode prog_1_method_9_code 17 = .ok (.iload_n 2, 1) := by decide +kernel
theorem d_F_gap_18 : decode prog_1_method_9_code 18 = .ok (.aload_n 0, 1) := by decide +kernel
theorem d_F_gap_19 : decode prog_1_method_9_code 19 = .ok (.getfield 10, 3) := by decide +kernel
theorem d_F_gap_22 : decode prog_1_method_9_code 22 = .ok (.iload_n 1, 1) := by decide +kernel
theorem d_F_gap_23 : decode prog_1_method_9_code 23 = .ok (.invokevirtual 120, 3) := by decide +kernel
theorem d_F_gap_26 : decode prog_1_method_9_code 26 = .ok (.if_icmp .le 6, 3) := by decide +kernel
theorem d_F_gap_29 : decode prog_1_method_9_code 29 = .ok (.bipush (-2), 2) := by decide +kernel
theorem d_F_gap_31 : decode prog_1_method_9_code 31 = .ok (.ireturn, 1) := by decide +kernel
theorem d_F_gap_32 : decode prog_1_method_9_code 32 = .ok (.aload_n 0, 1) := by decide +kernel
theorem d_F_gap_33 : decode prog_1_method_9_code 33 = .ok (.getfield 10, 3) := by decide +kernel
theorem d_F_gap_36 : decode prog_1_method_9_code 36 = .ok (.iload_n 1, 1) := by decide +kernel
theorem d_F_gap_37 : decode prog_1_method_9_code 37 = .ok (.iload_n 2, 1) := by decide +kernel
theorem d_F_gap_38 : decode prog_1_method_9_code 38 = .ok (.invokevirtual 123, 3) := by decide +kernel
theorem d_F_gap_41 : decode prog_1_method_9_code 41 = .ok (.iconst 1, 1) := by decide +kernel
theorem d_F_gap_42 : decode prog_1_method_9_code 42 = .ok (.ireturn, 1) := by decide +kernel
abbrev y_F_check : MethodName := ⟨"FrameTables", "check", "()I"⟩
abbrev m_F_check : MethodName × ByteArray × Nat × Option FieldType := (y_F_check, prog_1_method_10_code, 3, some .int)
theorem mi_F_check : .code y_F_check prog_1_method_10_code 3 (some .int) ∈ wT := wT_m 384 (by decide +kernel) rfl
theorem d_F_check_0 : decode prog_1_method_10_code 0 = .ok (.iconst 1, 1) := by decide +kernel
theorem d_F_check_1 : decode prog_1_method_10_code 1 = .ok (.istore_n 1, 1) := by decide +kernel
theorem d_F_check_2 : decode prog_1_method_10_code 2 = .ok (.iload_n 1, 1) := by decide +kernel
theorem d_F_check_3 : decode prog_1_method_10_code 3 = .ok (.iconst 4, 1) := by decide +kernel
theorem d_F_check_4 : decode prog_1_method_10_code 4 = .ok (.if_icmp .gt 45, 3) := by decide +kernel
theorem d_F_check_7 : decode prog_1_method_10_code 7 = .ok (.iconst 1, 1) := by decide +kernel
theorem d_F_check_8 : decode prog_1_method_10_code 8 = .ok (.istore_n 2, 1) := by decide +kernel
theorem d_F_check_9 : decode prog_1_method_10_code 9 = .ok (.iload_n 2, 1) := by decide +kernel
theorem d_F_check_10 : decode prog_1_method_10_code 10 = .ok (.aload_n 0, 1) := by decide +kernel
theorem d_F_check_11 : decode prog_1_method_10_code 11 = .ok (.getfield 10, 3) := by decide +kernel
theorem d_F_check_14 : decode prog_1_method_10_code 14 = .ok (.invokevirtual 127, 3) := by decide +kernel
theorem d_F_check_17 : decode prog_1_method_10_code 17 = .ok (.if_icmp .gt 26, 3) := by decide +kernel
theorem d_F_check_20 : decode prog_1_method_10_code 20 = .ok (.aload_n 0, 1) := by decide +kernel
theorem d_F_check_21 : decode prog_1_method_10_code 21 = .ok (.iload_n 1, 1) := by decide +kernel
theorem d_F_check_22 : decode prog_1_method_10_code 22 = .ok (.iload_n 2, 1) := by decide +kernel
theorem d_F_check_23 : decode prog_1_method_10_code 23 = .ok (.invokevirtual 131, 3) := by decide +kernel
theorem d_F_check_26 : decode prog_1_method_10_code 26 = .ok (.ifCond .eq 11, 3) := by decide +kernel
theorem d_F_check_29 : decode prog_1_method_10_code 29 = .ok (.sipush 1000, 3) := by decide +kernel
theorem d_F_check_32 : decode prog_1_method_10_code 32 = .ok (.iload_n 1, 1) := by decide +kernel
theorem d_F_check_33 : decode prog_1_method_10_code 33 = .ok (.imul, 1) := by decide +kernel
theorem d_F_check_34 : decode prog_1_method_10_code 34 = .ok (.iload_n 2, 1) := by decide +kernel
theorem d_F_check_35 : decode prog_1_method_10_code 35 = .ok (.iadd, 1) := by decide +kernel
theorem d_F_check_36 : decode prog_1_method_10_code 36 = .ok (.ireturn, 1) := by decide +kernel
theorem d_F_check_37 : decode prog_1_method_10_code 37 = .ok (.iinc 2 1, 3) := by decide +kernel
theorem d_F_check_40 : decode prog_1_method_10_code 40 = .ok (.goto (-31), 3) := by decide +kernel
theorem d_F_check_43 : decode prog_1_method_10_code 43 = .ok (.iinc 1 1, 3) := by decide +kernel
theorem d_F_check_46 : decode prog_1_method_10_code 46 = .ok (.goto (-44), 3) := by decide +kernel
theorem d_F_check_49 : decode prog_1_method_10_code 49 = .ok (.iconst 0, 1) := by decide +kernel
theorem d_F_check_50 : decode prog_1_method_10_code 50 = .ok (.ireturn, 1) := by decide +kernel
abbrev y_F_breaks : MethodName := ⟨"FrameTables", "breaks", "(II)Z"⟩
abbrev m_F_breaks : MethodName × ByteArray × Nat × Option FieldType := (y_F_breaks, prog_1_method_21_code, 3, some .boolean)
theorem mi_F_breaks : .code y_F_breaks prog_1_method_21_code 3 (some .boolean) ∈ wT := wT_m 389 (by decide +kernel) rfl
theorem d_F_breaks_0 : decode prog_1_method_21_code 0 = .ok (.iload_n 1, 1) := by decide +kernel
theorem d_F_breaks_1 : decode prog_1_method_21_code 1 = .ok (.tableswitch 81 1 4 #[31, 46, 63, 72], 31) := by decide +kernel
theorem d_F_breaks_32 : decode prog_1_method_21_code 32 = .ok (.aload_n 0, 1) := by decide +kernel
theorem d_F_breaks_33 : decode prog_1_method_21_code 33 = .ok (.iload_n 2, 1) := by decide +kernel
theorem d_F_breaks_34 : decode prog_1_method_21_code 34 = .ok (.invokevirtual 85, 3) := by decide +kernel
theorem d_F_breaks_37 : decode prog_1_method_21_code 37 = .ok (.iconst (-1), 1) := by decide +kernel
theorem d_F_breaks_38 : decode prog_1_method_21_code 38 = .ok (.if_icmp .ne 7, 3) := by decide +kernel
theorem d_F_breaks_41 : decode prog_1_method_21_code 41 = .ok (.iconst 1, 1) := by decide +kernel
theorem d_F_breaks_42 : decode prog_1_method_21_code 42 = .ok (.goto 4, 3) := by decide +kernel
theorem d_F_breaks_45 : decode prog_1_method_21_code 45 = .ok (.iconst 0, 1) := by decide +kernel
theorem d_F_breaks_46 : decode prog_1_method_21_code 46 = .ok (.ireturn, 1) := by decide +kernel
theorem d_F_breaks_47 : decode prog_1_method_21_code 47 = .ok (.aload_n 0, 1) := by decide +kernel
theorem d_F_breaks_48 : decode prog_1_method_21_code 48 = .ok (.getfield 10, 3) := by decide +kernel
theorem d_F_breaks_51 : decode prog_1_method_21_code 51 = .ok (.iload_n 2, 1) := by decide +kernel
theorem d_F_breaks_52 : decode prog_1_method_21_code 52 = .ok (.invokevirtual 82, 3) := by decide +kernel
theorem d_F_breaks_55 : decode prog_1_method_21_code 55 = .ok (.ifCond .ne 7, 3) := by decide +kernel
theorem d_F_breaks_58 : decode prog_1_method_21_code 58 = .ok (.iconst 1, 1) := by decide +kernel
theorem d_F_breaks_59 : decode prog_1_method_21_code 59 = .ok (.goto 4, 3) := by decide +kernel
theorem d_F_breaks_62 : decode prog_1_method_21_code 62 = .ok (.iconst 0, 1) := by decide +kernel
theorem d_F_breaks_63 : decode prog_1_method_21_code 63 = .ok (.ireturn, 1) := by decide +kernel
theorem d_F_breaks_64 : decode prog_1_method_21_code 64 = .ok (.aload_n 0, 1) := by decide +kernel
theorem d_F_breaks_65 : decode prog_1_method_21_code 65 = .ok (.getfield 10, 3) := by decide +kernel
theorem d_F_breaks_68 : decode prog_1_method_21_code 68 = .ok (.iload_n 2, 1) := by decide +kernel
theorem d_F_breaks_69 : decode prog_1_method_21_code 69 = .ok (.invokevirtual 171, 3) := by decide +kernel
theorem d_F_breaks_72 : decode prog_1_method_21_code 72 = .ok (.ireturn, 1) := by decide +kernel
theorem d_F_breaks_73 : decode prog_1_method_21_code 73 = .ok (.aload_n 0, 1) := by decide +kernel
theorem d_F_breaks_74 : decode prog_1_method_21_code 74 = .ok (.getfield 10, 3) := by decide +kernel
theorem d_F_breaks_77 : decode prog_1_method_21_code 77 = .ok (.iload_n 2, 1) := by decide +kernel
theorem d_F_breaks_78 : decode prog_1_method_21_code 78 = .ok (.invokevirtual 174, 3) := by decide +kernel
theorem d_F_breaks_81 : decode prog_1_method_21_code 81 = .ok (.ireturn, 1) := by decide +kernel
theorem d_F_breaks_82 : decode prog_1_method_21_code 82 = .ok (.iconst 0, 1) := by decide +kernel
theorem d_F_breaks_83 : decode prog_1_method_21_code 83 = .ok (.ireturn, 1) := by decide +kernel
abbrev y_F_sign : MethodName := ⟨"FrameTables", "sign", "(I)V"⟩
abbrev m_F_sign : MethodName × ByteArray × Nat × Option FieldType := (y_F_sign, prog_1_method_11_code, 4, none)
theorem mi_F_sign : .code y_F_sign prog_1_method_11_code 4 none ∈ wT := wT_m 401 (by decide +kernel) rfl
theorem d_F_sign_0 : decode prog_1_method_11_code 0 = .ok (.bipush 24, 2) := by decide +kernel
theorem d_F_sign_2 : decode prog_1_method_11_code 2 = .ok (.istore_n 2, 1) := by decide +kernel
theorem d_F_sign_3 : decode prog_1_method_11_code 3 = .ok (.iload_n 2, 1) := by decide +kernel
theorem d_F_sign_4 : decode prog_1_method_11_code 4 = .ok (.ifCond .lt 30, 3) := by decide +kernel
theorem d_F_sign_7 : decode prog_1_method_11_code 7 = .ok (.iload_n 1, 1) := by decide +kernel
theorem d_F_sign_8 : decode prog_1_method_11_code 8 = .ok (.iload_n 2, 1) := by decide +kernel
theorem d_F_sign_9 : decode prog_1_method_11_code 9 = .ok (.iushr, 1) := by decide +kernel
theorem d_F_sign_10 : decode prog_1_method_11_code 10 = .ok (.sipush 255, 3) := by decide +kernel
theorem d_F_sign_13 : decode prog_1_method_11_code 13 = .ok (.iand, 1) := by decide +kernel
theorem d_F_sign_14 : decode prog_1_method_11_code 14 = .ok (.istore_n 3, 1) := by decide +kernel
theorem d_F_sign_15 : decode prog_1_method_11_code 15 = .ok (.iload_n 3, 1) := by decide +kernel
theorem d_F_sign_16 : decode prog_1_method_11_code 16 = .ok (.ifCond .eq 12, 3) := by decide +kernel
theorem d_F_sign_19 : decode prog_1_method_11_code 19 = .ok (.aload_n 0, 1) := by decide +kernel
theorem d_F_sign_20 : decode prog_1_method_11_code 20 = .ok (.getfield 29, 3) := by decide +kernel
theorem d_F_sign_23 : decode prog_1_method_11_code 23 = .ok (.iload_n 3, 1) := by decide +kernel
theorem d_F_sign_24 : decode prog_1_method_11_code 24 = .ok (.i2c, 1) := by decide +kernel
theorem d_F_sign_25 : decode prog_1_method_11_code 25 = .ok (.invokevirtual 135, 3) := by decide +kernel
theorem d_F_sign_28 : decode prog_1_method_11_code 28 = .ok (.iinc 2 (-8), 3) := by decide +kernel
theorem d_F_sign_31 : decode prog_1_method_11_code 31 = .ok (.goto (-28), 3) := by decide +kernel
theorem d_F_sign_34 : decode prog_1_method_11_code 34 = .ok (.return_, 1) := by decide +kernel
abbrev y_F_read : MethodName := ⟨"FrameTables", "read", "()I"⟩
abbrev m_F_read : MethodName × ByteArray × Nat × Option FieldType := (y_F_read, prog_1_method_12_code, 3, some .int)
theorem mi_F_read : .code y_F_read prog_1_method_12_code 3 (some .int) ∈ wT := wT_m 409 (by decide +kernel) rfl
theorem d_F_read_0 : decode prog_1_method_12_code 0 = .ok (.aload_n 0, 1) := by decide +kernel
theorem d_F_read_1 : decode prog_1_method_12_code 1 = .ok (.getfield 38, 3) := by decide +kernel
theorem d_F_read_4 : decode prog_1_method_12_code 4 = .ok (.aload_n 0, 1) := by decide +kernel
theorem d_F_read_5 : decode prog_1_method_12_code 5 = .ok (.getfield 16, 3) := by decide +kernel
theorem d_F_read_8 : decode prog_1_method_12_code 8 = .ok (.invokevirtual 139, 3) := by decide +kernel
theorem d_F_read_11 : decode prog_1_method_12_code 11 = .ok (.istore_n 1, 1) := by decide +kernel
theorem d_F_read_12 : decode prog_1_method_12_code 12 = .ok (.aload_n 0, 1) := by decide +kernel
theorem d_F_read_13 : decode prog_1_method_12_code 13 = .ok (.getfield 29, 3) := by decide +kernel
theorem d_F_read_16 : decode prog_1_method_12_code 16 = .ok (.invokevirtual 142, 3) := by decide +kernel
theorem d_F_read_19 : decode prog_1_method_12_code 19 = .ok (.iload_n 1, 1) := by decide +kernel
theorem d_F_read_20 : decode prog_1_method_12_code 20 = .ok (.ifCond .le 6, 3) := by decide +kernel
theorem d_F_read_23 : decode prog_1_method_12_code 23 = .ok (.iload_n 1, 1) := by decide +kernel
theorem d_F_read_24 : decode prog_1_method_12_code 24 = .ok (.ineg, 1) := by decide +kernel
theorem d_F_read_25 : decode prog_1_method_12_code 25 = .ok (.ireturn, 1) := by decide +kernel
theorem d_F_read_26 : decode prog_1_method_12_code 26 = .ok (.aload_n 0, 1) := by decide +kernel
theorem d_F_read_27 : decode prog_1_method_12_code 27 = .ok (.getfield 10, 3) := by decide +kernel
theorem d_F_read_30 : decode prog_1_method_12_code 30 = .ok (.astore_n 2, 1) := by decide +kernel
theorem d_F_read_31 : decode prog_1_method_12_code 31 = .ok (.aload_n 0, 1) := by decide +kernel
theorem d_F_read_32 : decode prog_1_method_12_code 32 = .ok (.aload_n 0, 1) := by decide +kernel
theorem d_F_read_33 : decode prog_1_method_12_code 33 = .ok (.getfield 16, 3) := by decide +kernel
theorem d_F_read_36 : decode prog_1_method_12_code 36 = .ok (.putfield 10, 3) := by decide +kernel
theorem d_F_read_39 : decode prog_1_method_12_code 39 = .ok (.aload_n 0, 1) := by decide +kernel
theorem d_F_read_40 : decode prog_1_method_12_code 40 = .ok (.aload_n 2, 1) := by decide +kernel
theorem d_F_read_41 : decode prog_1_method_12_code 41 = .ok (.putfield 16, 3) := by decide +kernel
theorem d_F_read_44 : decode prog_1_method_12_code 44 = .ok (.aload_n 0, 1) := by decide +kernel
theorem d_F_read_45 : decode prog_1_method_12_code 45 = .ok (.iconst 0, 1) := by decide +kernel
theorem d_F_read_46 : decode prog_1_method_12_code 46 = .ok (.putfield 49, 3) := by decide +kernel
theorem d_F_read_49 : decode prog_1_method_12_code 49 = .ok (.aload_n 0, 1) := by decide +kernel
theorem d_F_read_50 : decode prog_1_method_12_code 50 = .ok (.getfield 10, 3) := by decide +kernel
theorem d_F_read_53 : decode prog_1_method_12_code 53 = .ok (.invokevirtual 127, 3) := by decide +kernel
theorem d_F_read_56 : decode prog_1_method_12_code 56 = .ok (.ireturn, 1) := by decide +kernel
abbrev y_P_fill : MethodName := ⟨"FrameTables$Parser", "fill", "(LFrameTables$Table;)I"⟩
abbrev m_P_fill : MethodName × ByteArray × Nat × Option FieldType := (y_P_fill, prog_2_method_2_code, 5, some .int)
theorem mi_P_fill : .code y_P_fill prog_2_method_2_code 5 (some .int) ∈ wT := wT_m 413 (by decide +kernel) rfl
theorem d_P_fill_0 : decode prog_2_method_2_code 0 = .ok (.aload_n 1, 1) := by decide +kernel
theorem d_P_fill_1 : decode prog_2_method_2_code 1 = .ok (.invokevirtual 25, 3) := by decide +kernel
theorem d_P_fill_4 : decode prog_2_method_2_code 4 = .ok (.iconst 1, 1) := by decide +kernel
theorem d_P_fill_5 : decode prog_2_method_2_code 5 = .ok (.istore_n 2, 1) := by decide +kernel
theorem d_P_fill_6 : decode prog_2_method_2_code 6 = .ok (.iconst 0, 1) := by decide +kernel
theorem d_P_fill_7 : decode prog_2_method_2_code 7 = .ok (.istore_n 3, 1) := by decide +kernel
theorem d_P_fill_8 : decode prog_2_method_2_code 8 = .ok (.iconst 0, 1) := by decide +kernel
theorem d_P_fill_9 : decode prog_2_method_2_code 9 = .ok (.istore 4, 2) := by decide +kernel
theorem d_P_fill_11 : decode prog_2_method_2_code 11 = .ok (.iload 4, 2) := by decide +kernel
theorem d_P_fill_13 : decode prog_2_method_2_code 13 = .ok (.aload_n 0, 1) := by decide +kernel
theorem d_P_fill_14 : decode prog_2_method_2_code 14 = .ok (.getfield 21, 3) := by decide +kernel
theorem d_P_fill_17 : decode prog_2_method_2_code 17 = .ok (.invokevirtual 30, 3) := by decide +kernel
theorem d_P_fill_20 : decode prog_2_method_2_code 20 = .ok (.if_icmp .gt 56, 3) := by decide +kernel
theorem d_P_fill_23 : decode prog_2_method_2_code 23 = .ok (.iload 4, 2) := by decide +kernel
theorem d_P_fill_25 : decode prog_2_method_2_code 25 = .ok (.aload_n 0, 1) := by decide +kernel
theorem d_P_fill_26 : decode prog_2_method_2_code 26 = .ok (.getfield 21, 3) := by decide +kernel
theorem d_P_fill_29 : decode prog_2_method_2_code 29 = .ok (.invokevirtual 30, 3) := by decide +kernel
theorem d_P_fill_32 : decode prog_2_method_2_code 32 = .ok (.if_icmp .eq 17, 3) := by decide +kernel
theorem d_P_fill_35 : decode prog_2_method_2_code 35 = .ok (.aload_n 0, 1) := by decide +kernel
theorem d_P_fill_36 : decode prog_2_method_2_code 36 = .ok (.getfield 21, 3) := by decide +kernel
theorem d_P_fill_39 : decode prog_2_method_2_code 39 = .ok (.iload 4, 2) := by decide +kernel
theorem d_P_fill_41 : decode prog_2_method_2_code 41 = .ok (.invokevirtual 36, 3) := by decide +kernel
theorem d_P_fill_44 : decode prog_2_method_2_code 44 = .ok (.bipush 10, 2) := by decide +kernel
theorem d_P_fill_46 : decode prog_2_method_2_code 46 = .ok (.if_icmp .ne 24, 3) := by decide +kernel
theorem d_P_fill_49 : decode prog_2_method_2_code 49 = .ok (.aload_n 0, 1) := by decide +kernel
theorem d_P_fill_50 : decode prog_2_method_2_code 50 = .ok (.iload_n 3, 1) := by decide +kernel
theorem d_P_fill_51 : decode prog_2_method_2_code 51 = .ok (.iload 4, 2) := by decide +kernel
theorem d_P_fill_53 : decode prog_2_method_2_code 53 = .ok (.aload_n 1, 1) := by decide +kernel
theorem d_P_fill_54 : decode prog_2_method_2_code 54 = .ok (.invokevirtual 40, 3) := by decide +kernel
theorem d_P_fill_57 : decode prog_2_method_2_code 57 = .ok (.ifCond .ne 5, 3) := by decide +kernel
theorem d_P_fill_60 : decode prog_2_method_2_code 60 = .ok (.iload_n 2, 1) := by decide +kernel
theorem d_P_fill_61 : decode prog_2_method_2_code 61 = .ok (.ireturn, 1) := by decide +kernel
theorem d_P_fill_62 : decode prog_2_method_2_code 62 = .ok (.iinc 2 1, 3) := by decide +kernel
theorem d_P_fill_65 : decode prog_2_method_2_code 65 = .ok (.iload 4, 2) := by decide +kernel
theorem d_P_fill_67 : decode prog_2_method_2_code 67 = .ok (.iconst 1, 1) := by decide +kernel
theorem d_P_fill_68 : decode prog_2_method_2_code 68 = .ok (.iadd, 1) := by decide +kernel
theorem d_P_fill_69 : decode prog_2_method_2_code 69 = .ok (.istore_n 3, 1) := by decide +kernel
theorem d_P_fill_70 : decode prog_2_method_2_code 70 = .ok (.iinc 4 1, 3) := by decide +kernel
theorem d_P_fill_73 : decode prog_2_method_2_code 73 = .ok (.goto (-62), 3) := by decide +kernel
theorem d_P_fill_76 : decode prog_2_method_2_code 76 = .ok (.iconst 0, 1) := by decide +kernel
theorem d_P_fill_77 : decode prog_2_method_2_code 77 = .ok (.ireturn, 1) := by decide +kernel
abbrev y_P_takeLine : MethodName := ⟨"FrameTables$Parser", "takeLine", "(IILFrameTables$Table;)Z"⟩
abbrev m_P_takeLine : MethodName × ByteArray × Nat × Option FieldType := (y_P_takeLine, prog_2_method_3_code, 4, some .boolean)
theorem mi_P_takeLine : .code y_P_takeLine prog_2_method_3_code 4 (some .boolean) ∈ wT := wT_m 429 (by decide +kernel) rfl
theorem d_P_takeLine_0 : decode prog_2_method_3_code 0 = .ok (.aload_n 0, 1) := by decide +kernel
theorem d_P_takeLine_1 : decode prog_2_method_3_code 1 = .ok (.iload_n 1, 1) := by decide +kernel
theorem d_P_takeLine_2 : decode prog_2_method_3_code 2 = .ok (.putfield 15, 3) := by decide +kernel
theorem d_P_takeLine_5 : decode prog_2_method_3_code 5 = .ok (.aload_n 0, 1) := by decide +kernel
theorem d_P_takeLine_6 : decode prog_2_method_3_code 6 = .ok (.iload_n 2, 1) := by decide +kernel
theorem d_P_takeLine_7 : decode prog_2_method_3_code 7 = .ok (.putfield 18, 3) := by decide +kernel
theorem d_P_takeLine_10 : decode prog_2_method_3_code 10 = .ok (.aload_n 0, 1) := by decide +kernel
theorem d_P_takeLine_11 : decode prog_2_method_3_code 11 = .ok (.invokevirtual 44, 3) := by decide +kernel
theorem d_P_takeLine_14 : decode prog_2_method_3_code 14 = .ok (.ifCond .ne 5, 3) := by decide +kernel
theorem d_P_takeLine_17 : decode prog_2_method_3_code 17 = .ok (.iconst 1, 1) := by decide +kernel
theorem d_P_takeLine_18 : decode prog_2_method_3_code 18 = .ok (.ireturn, 1) := by decide +kernel
theorem d_P_takeLine_19 : decode prog_2_method_3_code 19 = .ok (.aload_n 0, 1) := by decide +kernel
theorem d_P_takeLine_20 : decode prog_2_method_3_code 20 = .ok (.ldc 48, 2) := by decide +kernel
theorem d_P_takeLine_22 : decode prog_2_method_3_code 22 = .ok (.invokevirtual 50, 3) := by decide +kernel
theorem d_P_takeLine_25 : decode prog_2_method_3_code 25 = .ok (.ifCond .eq 23, 3) := by decide +kernel
theorem d_P_takeLine_28 : decode prog_2_method_3_code 28 = .ok (.aload_n 0, 1) := by decide +kernel
theorem d_P_takeLine_29 : decode prog_2_method_3_code 29 = .ok (.aload_n 3, 1) := by decide +kernel
theorem d_P_takeLine_30 : decode prog_2_method_3_code 30 = .ok (.invokevirtual 54, 3) := by decide +kernel
theorem d_P_takeLine_33 : decode prog_2_method_3_code 33 = .ok (.ifCond .eq 15, 3) := by decide +kernel
theorem d_P_takeLine_36 : decode prog_2_method_3_code 36 = .ok (.aload_n 0, 1) := by decide +kernel
theorem d_P_takeLine_37 : decode prog_2_method_3_code 37 = .ok (.aload_n 3, 1) := by decide +kernel
theorem d_P_takeLine_38 : decode prog_2_method_3_code 38 = .ok (.invokevirtual 58, 3) := by decide +kernel
theorem d_P_takeLine_41 : decode prog_2_method_3_code 41 = .ok (.ifCond .eq 7, 3) := by decide +kernel
theorem d_P_takeLine_44 : decode prog_2_method_3_code 44 = .ok (.iconst 1, 1) := by decide +kernel
theorem d_P_takeLine_45 : decode prog_2_method_3_code 45 = .ok (.goto 4, 3) := by decide +kernel
theorem d_P_takeLine_48 : decode prog_2_method_3_code 48 = .ok (.iconst 0, 1) := by decide +kernel
theorem d_P_takeLine_49 : decode prog_2_method_3_code 49 = .ok (.ireturn, 1) := by decide +kernel
abbrev y_P_nextWord : MethodName := ⟨"FrameTables$Parser", "nextWord", "()Z"⟩
abbrev m_P_nextWord : MethodName × ByteArray × Nat × Option FieldType := (y_P_nextWord, prog_2_method_7_code, 1, some .boolean)
theorem mi_P_nextWord : .code y_P_nextWord prog_2_method_7_code 1 (some .boolean) ∈ wT := wT_m 433 (by decide +kernel) rfl
theorem d_P_nextWord_0 : decode prog_2_method_7_code 0 = .ok (.aload_n 0, 1) := by decide +kernel
theorem d_P_nextWord_1 : decode prog_2_method_7_code 1 = .ok (.aload_n 0, 1) := by decide +kernel
theorem d_P_nextWord_2 : decode prog_2_method_7_code 2 = .ok (.getfield 15, 3) := by decide +kernel
theorem d_P_nextWord_5 : decode prog_2_method_7_code 5 = .ok (.putfield 9, 3) := by decide +kernel
theorem d_P_nextWord_8 : decode prog_2_method_7_code 8 = .ok (.aload_n 0, 1) := by decide +kernel
theorem d_P_nextWord_9 : decode prog_2_method_7_code 9 = .ok (.getfield 9, 3) := by decide +kernel
theorem d_P_nextWord_12 : decode prog_2_method_7_code 12 = .ok (.aload_n 0, 1) := by decide +kernel
theorem d_P_nextWord_13 : decode prog_2_method_7_code 13 = .ok (.getfield 18, 3) := by decide +kernel
theorem d_P_nextWord_16 : decode prog_2_method_7_code 16 = .ok (.if_icmp .ge 32, 3) := by decide +kernel
theorem d_P_nextWord_19 : decode prog_2_method_7_code 19 = .ok (.aload_n 0, 1) := by decide +kernel
theorem d_P_nextWord_20 : decode prog_2_method_7_code 20 = .ok (.getfield 21, 3) := by decide +kernel
theorem d_P_nextWord_23 : decode prog_2_method_7_code 23 = .ok (.aload_n 0, 1) := by decide +kernel
theorem d_P_nextWord_24 : decode prog_2_method_7_code 24 = .ok (.getfield 9, 3) := by decide +kernel
theorem d_P_nextWord_27 : decode prog_2_method_7_code 27 = .ok (.invokevirtual 36, 3) := by decide +kernel
theorem d_P_nextWord_30 : decode prog_2_method_7_code 30 = .ok (.bipush 32, 2) := by decide +kernel
theorem d_P_nextWord_32 : decode prog_2_method_7_code 32 = .ok (.if_icmp .ne 16, 3) := by decide +kernel
theorem d_P_nextWord_35 : decode prog_2_method_7_code 35 = .ok (.aload_n 0, 1) := by decide +kernel
theorem d_P_nextWord_36 : decode prog_2_method_7_code 36 = .ok (.dup, 1) := by decide +kernel
theorem d_P_nextWord_37 : decode prog_2_method_7_code 37 = .ok (.getfield 9, 3) := by decide +kernel
theorem d_P_nextWord_40 : decode prog_2_method_7_code 40 = .ok (.iconst 1, 1) := by decide +kernel
theorem d_P_nextWord_41 : decode prog_2_method_7_code 41 = .ok (.iadd, 1) := by decide +kernel
theorem d_P_nextWord_42 : decode prog_2_method_7_code 42 = .ok (.putfield 9, 3) := by decide +kernel
theorem d_P_nextWord_45 : decode prog_2_method_7_code 45 = .ok (.goto (-37), 3) := by decide +kernel
theorem d_P_nextWord_48 : decode prog_2_method_7_code 48 = .ok (.aload_n 0, 1) := by decide +kernel
theorem d_P_nextWord_49 : decode prog_2_method_7_code 49 = .ok (.aload_n 0, 1) := by decide +kernel
theorem d_P_nextWord_50 : decode prog_2_method_7_code 50 = .ok (.getfield 9, 3) := by decide +kernel
theorem d_P_nextWord_53 : decode prog_2_method_7_code 53 = .ok (.putfield 15, 3) := by decide +kernel
theorem d_P_nextWord_56 : decode prog_2_method_7_code 56 = .ok (.aload_n 0, 1) := by decide +kernel
theorem d_P_nextWord_57 : decode prog_2_method_7_code 57 = .ok (.getfield 15, 3) := by decide +kernel
theorem d_P_nextWord_60 : decode prog_2_method_7_code 60 = .ok (.aload_n 0, 1) := by decide +kernel
theorem d_P_nextWord_61 : decode prog_2_method_7_code 61 = .ok (.getfield 18, 3) := by decide +kernel
theorem d_P_nextWord_64 : decode prog_2_method_7_code 64 = .ok (.if_icmp .ge 32, 3) := by decide +kernel
theorem d_P_nextWord_67 : decode prog_2_method_7_code 67 = .ok (.aload_n 0, 1) := by decide +kernel
theorem d_P_nextWord_68 : decode prog_2_method_7_code 68 = .ok (.getfield 21, 3) := by decide +kernel
theorem d_P_nextWord_71 : decode prog_2_method_7_code 71 = .ok (.aload_n 0, 1) := by decide +kernel
theorem d_P_nextWord_72 : decode prog_2_method_7_code 72 = .ok (.getfield 15, 3) := by decide +kernel
theorem d_P_nextWord_75 : decode prog_2_method_7_code 75 = .ok (.invokevirtual 36, 3) := by decide +kernel
theorem d_P_nextWord_78 : decode prog_2_method_7_code 78 = .ok (.bipush 32, 2) := by decide +kernel
theorem d_P_nextWord_80 : decode prog_2_method_7_code 80 = .ok (.if_icmp .eq 16, 3) := by decide +kernel
theorem d_P_nextWord_83 : decode prog_2_method_7_code 83 = .ok (.aload_n 0, 1) := by decide +kernel
theorem d_P_nextWord_84 : decode prog_2_method_7_code 84 = .ok (.dup, 1) := by decide +kernel
theorem d_P_nextWord_85 : decode prog_2_method_7_code 85 = .ok (.getfield 15, 3) := by decide +kernel
theorem d_P_nextWord_88 : decode prog_2_method_7_code 88 = .ok (.iconst 1, 1) := by decide +kernel
theorem d_P_nextWord_89 : decode prog_2_method_7_code 89 = .ok (.iadd, 1) := by decide +kernel
theorem d_P_nextWord_90 : decode prog_2_method_7_code 90 = .ok (.putfield 15, 3) := by decide +kernel
theorem d_P_nextWord_93 : decode prog_2_method_7_code 93 = .ok (.goto (-37), 3) := by decide +kernel
theorem d_P_nextWord_96 : decode prog_2_method_7_code 96 = .ok (.aload_n 0, 1) := by decide +kernel
theorem d_P_nextWord_97 : decode prog_2_method_7_code 97 = .ok (.getfield 15, 3) := by decide +kernel
theorem d_P_nextWord_100 : decode prog_2_method_7_code 100 = .ok (.aload_n 0, 1) := by decide +kernel
theorem d_P_nextWord_101 : decode prog_2_method_7_code 101 = .ok (.getfield 9, 3) := by decide +kernel
theorem d_P_nextWord_104 : decode prog_2_method_7_code 104 = .ok (.if_icmp .le 7, 3) := by decide +kernel
theorem d_P_nextWord_107 : decode prog_2_method_7_code 107 = .ok (.iconst 1, 1) := by decide +kernel
theorem d_P_nextWord_108 : decode prog_2_method_7_code 108 = .ok (.goto 4, 3) := by decide +kernel
theorem d_P_nextWord_111 : decode prog_2_method_7_code 111 = .ok (.iconst 0, 1) := by decide +kernel
theorem d_P_nextWord_112 : decode prog_2_method_7_code 112 = .ok (.ireturn, 1) := by decide +kernel
abbrev y_P_wordIs : MethodName := ⟨"FrameTables$Parser", "wordIs", "(Ljava/lang/String;)Z"⟩
abbrev m_P_wordIs : MethodName × ByteArray × Nat × Option FieldType := (y_P_wordIs, prog_2_method_8_code, 3, some .boolean)
theorem mi_P_wordIs : .code y_P_wordIs prog_2_method_8_code 3 (some .boolean) ∈ wT := wT_m 438 (by decide +kernel) rfl
theorem d_P_wordIs_0 : decode prog_2_method_8_code 0 = .ok (.aload_n 0, 1) := by decide +kernel
theorem d_P_wordIs_1 : decode prog_2_method_8_code 1 = .ok (.getfield 15, 3) := by decide +kernel
theorem d_P_wordIs_4 : decode prog_2_method_8_code 4 = .ok (.aload_n 0, 1) := by decide +kernel
theorem d_P_wordIs_5 : decode prog_2_method_8_code 5 = .ok (.getfield 9, 3) := by decide +kernel
theorem d_P_wordIs_8 : decode prog_2_method_8_code 8 = .ok (.isub, 1) := by decide +kernel
theorem d_P_wordIs_9 : decode prog_2_method_8_code 9 = .ok (.aload_n 1, 1) := by decide +kernel
theorem d_P_wordIs_10 : decode prog_2_method_8_code 10 = .ok (.invokevirtual 97, 3) := by decide +kernel
theorem d_P_wordIs_13 : decode prog_2_method_8_code 13 = .ok (.if_icmp .eq 5, 3) := by decide +kernel
theorem d_P_wordIs_16 : decode prog_2_method_8_code 16 = .ok (.iconst 0, 1) := by decide +kernel
theorem d_P_wordIs_17 : decode prog_2_method_8_code 17 = .ok (.ireturn, 1) := by decide +kernel
theorem d_P_wordIs_18 : decode prog_2_method_8_code 18 = .ok (.iconst 0, 1) := by decide +kernel
theorem d_P_wordIs_19 : decode prog_2_method_8_code 19 = .ok (.istore_n 2, 1) := by decide +kernel
theorem d_P_wordIs_20 : decode prog_2_method_8_code 20 = .ok (.iload_n 2, 1) := by decide +kernel
theorem d_P_wordIs_21 : decode prog_2_method_8_code 21 = .ok (.aload_n 1, 1) := by decide +kernel
theorem d_P_wordIs_22 : decode prog_2_method_8_code 22 = .ok (.invokevirtual 97, 3) := by decide +kernel
theorem d_P_wordIs_25 : decode prog_2_method_8_code 25 = .ok (.if_icmp .ge 32, 3) := by decide +kernel
theorem d_P_wordIs_28 : decode prog_2_method_8_code 28 = .ok (.aload_n 0, 1) := by decide +kernel
theorem d_P_wordIs_29 : decode prog_2_method_8_code 29 = .ok (.getfield 21, 3) := by decide +kernel
theorem d_P_wordIs_32 : decode prog_2_method_8_code 32 = .ok (.aload_n 0, 1) := by decide +kernel
theorem d_P_wordIs_33 : decode prog_2_method_8_code 33 = .ok (.getfield 9, 3) := by decide +kernel
theorem d_P_wordIs_36 : decode prog_2_method_8_code 36 = .ok (.iload_n 2, 1) := by decide +kernel
theorem d_P_wordIs_37 : decode prog_2_method_8_code 37 = .ok (.iadd, 1) := by decide +kernel
theorem d_P_wordIs_38 : decode prog_2_method_8_code 38 = .ok (.invokevirtual 36, 3) := by decide +kernel
theorem d_P_wordIs_41 : decode prog_2_method_8_code 41 = .ok (.aload_n 1, 1) := by decide +kernel
theorem d_P_wordIs_42 : decode prog_2_method_8_code 42 = .ok (.iload_n 2, 1) := by decide +kernel
theorem d_P_wordIs_43 : decode prog_2_method_8_code 43 = .ok (.invokevirtual 100, 3) := by decide +kernel
theorem d_P_wordIs_46 : decode prog_2_method_8_code 46 = .ok (.if_icmp .eq 5, 3) := by decide +kernel
theorem d_P_wordIs_49 : decode prog_2_method_8_code 49 = .ok (.iconst 0, 1) := by decide +kernel
theorem d_P_wordIs_50 : decode prog_2_method_8_code 50 = .ok (.ireturn, 1) := by decide +kernel
theorem d_P_wordIs_51 : decode prog_2_method_8_code 51 = .ok (.iinc 2 1, 3) := by decide +kernel
theorem d_P_wordIs_54 : decode prog_2_method_8_code 54 = .ok (.goto (-34), 3) := by decide +kernel
theorem d_P_wordIs_57 : decode prog_2_method_8_code 57 = .ok (.iconst 1, 1) := by decide +kernel
theorem d_P_wordIs_58 : decode prog_2_method_8_code 58 = .ok (.ireturn, 1) := by decide +kernel
abbrev y_P_takeFrame : MethodName := ⟨"FrameTables$Parser", "takeFrame", "(LFrameTables$Table;)Z"⟩
abbrev m_P_takeFrame : MethodName × ByteArray × Nat × Option FieldType := (y_P_takeFrame, prog_2_method_4_code, 6, some .boolean)
theorem mi_P_takeFrame : .code y_P_takeFrame prog_2_method_4_code 6 (some .boolean) ∈ wT := wT_m 490 (by decide +kernel) rfl
theorem d_P_takeFrame_0 : decode prog_2_method_4_code 0 = .ok (.aload_n 0, 1) := by decide +kernel
theorem d_P_takeFrame_1 : decode prog_2_method_4_code 1 = .ok (.invokevirtual 61, 3) := by decide +kernel
theorem d_P_takeFrame_4 : decode prog_2_method_4_code 4 = .ok (.istore_n 2, 1) := by decide +kernel
theorem d_P_takeFrame_5 : decode prog_2_method_4_code 5 = .ok (.aload_n 0, 1) := by decide +kernel
theorem d_P_takeFrame_6 : decode prog_2_method_4_code 6 = .ok (.invokevirtual 61, 3) := by decide +kernel
theorem d_P_takeFrame_9 : decode prog_2_method_4_code 9 = .ok (.istore_n 3, 1) := by decide +kernel
theorem d_P_takeFrame_10 : decode prog_2_method_4_code 10 = .ok (.aload_n 0, 1) := by decide +kernel
theorem d_P_takeFrame_11 : decode prog_2_method_4_code 11 = .ok (.invokevirtual 61, 3) := by decide +kernel
theorem d_P_takeFrame_14 : decode prog_2_method_4_code 14 = .ok (.istore 4, 2) := by decide +kernel
theorem d_P_takeFrame_16 : decode prog_2_method_4_code 16 = .ok (.aload_n 0, 1) := by decide +kernel
theorem d_P_takeFrame_17 : decode prog_2_method_4_code 17 = .ok (.invokevirtual 61, 3) := by decide +kernel
theorem d_P_takeFrame_20 : decode prog_2_method_4_code 20 = .ok (.istore 5, 2) := by decide +kernel
theorem d_P_takeFrame_22 : decode prog_2_method_4_code 22 = .ok (.iload_n 2, 1) := by decide +kernel
theorem d_P_takeFrame_23 : decode prog_2_method_4_code 23 = .ok (.invokestatic 64, 3) := by decide +kernel
theorem d_P_takeFrame_26 : decode prog_2_method_4_code 26 = .ok (.ifCond .eq 18, 3) := by decide +kernel
theorem d_P_takeFrame_29 : decode prog_2_method_4_code 29 = .ok (.iload_n 3, 1) := by decide +kernel
theorem d_P_takeFrame_30 : decode prog_2_method_4_code 30 = .ok (.invokestatic 68, 3) := by decide +kernel
theorem d_P_takeFrame_33 : decode prog_2_method_4_code 33 = .ok (.ifCond .eq 11, 3) := by decide +kernel
theorem d_P_takeFrame_36 : decode prog_2_method_4_code 36 = .ok (.iload 4, 2) := by decide +kernel
theorem d_P_takeFrame_38 : decode prog_2_method_4_code 38 = .ok (.invokestatic 71, 3) := by decide +kernel
theorem d_P_takeFrame_41 : decode prog_2_method_4_code 41 = .ok (.ifCond .ne 5, 3) := by decide +kernel
theorem d_P_takeFrame_44 : decode prog_2_method_4_code 44 = .ok (.iconst 0, 1) := by decide +kernel
theorem d_P_takeFrame_45 : decode prog_2_method_4_code 45 = .ok (.ireturn, 1) := by decide +kernel
theorem d_P_takeFrame_46 : decode prog_2_method_4_code 46 = .ok (.iload 5, 2) := by decide +kernel
theorem d_P_takeFrame_48 : decode prog_2_method_4_code 48 = .ok (.ifCond .lt 16, 3) := by decide +kernel
theorem d_P_takeFrame_51 : decode prog_2_method_4_code 51 = .ok (.iload 5, 2) := by decide +kernel
theorem d_P_takeFrame_53 : decode prog_2_method_4_code 53 = .ok (.iload_n 3, 1) := by decide +kernel
theorem d_P_takeFrame_54 : decode prog_2_method_4_code 54 = .ok (.if_icmp .gt 10, 3) := by decide +kernel
theorem d_P_takeFrame_57 : decode prog_2_method_4_code 57 = .ok (.aload_n 1, 1) := by decide +kernel
theorem d_P_takeFrame_58 : decode prog_2_method_4_code 58 = .ok (.invokevirtual 74, 3) := by decide +kernel
theorem d_P_takeFrame_61 : decode prog_2_method_4_code 61 = .ok (.ifCond .eq 5, 3) := by decide +kernel
theorem d_P_takeFrame_64 : decode prog_2_method_4_code 64 = .ok (.iconst 0, 1) := by decide +kernel
theorem d_P_takeFrame_65 : decode prog_2_method_4_code 65 = .ok (.ireturn, 1) := by decide +kernel
theorem d_P_takeFrame_66 : decode prog_2_method_4_code 66 = .ok (.aload_n 1, 1) := by decide +kernel
theorem d_P_takeFrame_67 : decode prog_2_method_4_code 67 = .ok (.iload_n 2, 1) := by decide +kernel
theorem d_P_takeFrame_68 : decode prog_2_method_4_code 68 = .ok (.iload_n 3, 1) := by decide +kernel
theorem d_P_takeFrame_69 : decode prog_2_method_4_code 69 = .ok (.iload 4, 2) := by decide +kernel
theorem d_P_takeFrame_71 : decode prog_2_method_4_code 71 = .ok (.iload 5, 2) := by decide +kernel
theorem d_P_takeFrame_73 : decode prog_2_method_4_code 73 = .ok (.invokevirtual 77, 3) := by decide +kernel
theorem d_P_takeFrame_76 : decode prog_2_method_4_code 76 = .ok (.pop, 1) := by decide +kernel
theorem d_P_takeFrame_77 : decode prog_2_method_4_code 77 = .ok (.iconst 1, 1) := by decide +kernel
theorem d_P_takeFrame_78 : decode prog_2_method_4_code 78 = .ok (.ireturn, 1) := by decide +kernel
abbrev y_P_nextNumber : MethodName := ⟨"FrameTables$Parser", "nextNumber", "()I"⟩
abbrev m_P_nextNumber : MethodName × ByteArray × Nat × Option FieldType := (y_P_nextNumber, prog_2_method_9_code, 4, some .int)
theorem mi_P_nextNumber : .code y_P_nextNumber prog_2_method_9_code 4 (some .int) ∈ wT := wT_m 494 (by decide +kernel) rfl
theorem d_P_nextNumber_0 : decode prog_2_method_9_code 0 = .ok (.aload_n 0, 1) := by decide +kernel
theorem d_P_nextNumber_1 : decode prog_2_method_9_code 1 = .ok (.invokevirtual 44, 3) := by decide +kernel
theorem d_P_nextNumber_4 : decode prog_2_method_9_code 4 = .ok (.ifCond .eq 17, 3) := by decide +kernel
theorem d_P_nextNumber_7 : decode prog_2_method_9_code 7 = .ok (.aload_n 0, 1) := by decide +kernel
theorem d_P_nextNumber_8 : decode prog_2_method_9_code 8 = .ok (.getfield 15, 3) := by decide +kernel
theorem d_P_nextNumber_11 : decode prog_2_method_9_code 11 = .ok (.aload_n 0, 1) := by decide +kernel
theorem d_P_nextNumber_12 : decode prog_2_method_9_code 12 = .ok (.getfield 9, 3) := by decide +kernel
theorem d_P_nextNumber_15 : decode prog_2_method_9_code 15 = .ok (.isub, 1) := by decide +kernel
theorem d_P_nextNumber_16 : decode prog_2_method_9_code 16 = .ok (.bipush 6, 2) := by decide +kernel
theorem d_P_nextNumber_18 : decode prog_2_method_9_code 18 = .ok (.if_icmp .le 5, 3) := by decide +kernel
theorem d_P_nextNumber_21 : decode prog_2_method_9_code 21 = .ok (.iconst (-1), 1) := by decide +kernel
theorem d_P_nextNumber_22 : decode prog_2_method_9_code 22 = .ok (.ireturn, 1) := by decide +kernel
theorem d_P_nextNumber_23 : decode prog_2_method_9_code 23 = .ok (.iconst 0, 1) := by decide +kernel
theorem d_P_nextNumber_24 : decode prog_2_method_9_code 24 = .ok (.istore_n 1, 1) := by decide +kernel
theorem d_P_nextNumber_25 : decode prog_2_method_9_code 25 = .ok (.aload_n 0, 1) := by decide +kernel
theorem d_P_nextNumber_26 : decode prog_2_method_9_code 26 = .ok (.getfield 9, 3) := by decide +kernel
theorem d_P_nextNumber_29 : decode prog_2_method_9_code 29 = .ok (.istore_n 2, 1) := by decide +kernel
theorem d_P_nextNumber_30 : decode prog_2_method_9_code 30 = .ok (.iload_n 2, 1) := by decide +kernel
theorem d_P_nextNumber_31 : decode prog_2_method_9_code 31 = .ok (.aload_n 0, 1) := by decide +kernel
theorem d_P_nextNumber_32 : decode prog_2_method_9_code 32 = .ok (.getfield 15, 3) := by decide +kernel
theorem d_P_nextNumber_35 : decode prog_2_method_9_code 35 = .ok (.if_icmp .ge 40, 3) := by decide +kernel
theorem d_P_nextNumber_38 : decode prog_2_method_9_code 38 = .ok (.aload_n 0, 1) := by decide +kernel
theorem d_P_nextNumber_39 : decode prog_2_method_9_code 39 = .ok (.getfield 21, 3) := by decide +kernel
theorem d_P_nextNumber_42 : decode prog_2_method_9_code 42 = .ok (.iload_n 2, 1) := by decide +kernel
theorem d_P_nextNumber_43 : decode prog_2_method_9_code 43 = .ok (.invokevirtual 36, 3) := by decide +kernel
theorem d_P_nextNumber_46 : decode prog_2_method_9_code 46 = .ok (.bipush 48, 2) := by decide +kernel
theorem d_P_nextNumber_48 : decode prog_2_method_9_code 48 = .ok (.isub, 1) := by decide +kernel
theorem d_P_nextNumber_49 : decode prog_2_method_9_code 49 = .ok (.istore_n 3, 1) := by decide +kernel
theorem d_P_nextNumber_50 : decode prog_2_method_9_code 50 = .ok (.iload_n 3, 1) := by decide +kernel
theorem d_P_nextNumber_51 : decode prog_2_method_9_code 51 = .ok (.ifCond .lt 9, 3) := by decide +kernel
theorem d_P_nextNumber_54 : decode prog_2_method_9_code 54 = .ok (.iload_n 3, 1) := by decide +kernel
theorem d_P_nextNumber_55 : decode prog_2_method_9_code 55 = .ok (.bipush 9, 2) := by decide +kernel
theorem d_P_nextNumber_57 : decode prog_2_method_9_code 57 = .ok (.if_icmp .le 5, 3) := by decide +kernel
theorem d_P_nextNumber_60 : decode prog_2_method_9_code 60 = .ok (.iconst (-1), 1) := by decide +kernel
theorem d_P_nextNumber_61 : decode prog_2_method_9_code 61 = .ok (.ireturn, 1) := by decide +kernel
theorem d_P_nextNumber_62 : decode prog_2_method_9_code 62 = .ok (.iload_n 1, 1) := by decide +kernel
theorem d_P_nextNumber_63 : decode prog_2_method_9_code 63 = .ok (.bipush 10, 2) := by decide +kernel
theorem d_P_nextNumber_65 : decode prog_2_method_9_code 65 = .ok (.imul, 1) := by decide +kernel
theorem d_P_nextNumber_66 : decode prog_2_method_9_code 66 = .ok (.iload_n 3, 1) := by decide +kernel
theorem d_P_nextNumber_67 : decode prog_2_method_9_code 67 = .ok (.iadd, 1) := by decide +kernel
theorem d_P_nextNumber_68 : decode prog_2_method_9_code 68 = .ok (.istore_n 1, 1) := by decide +kernel
theorem d_P_nextNumber_69 : decode prog_2_method_9_code 69 = .ok (.iinc 2 1, 3) := by decide +kernel
theorem d_P_nextNumber_72 : decode prog_2_method_9_code 72 = .ok (.goto (-42), 3) := by decide +kernel
theorem d_P_nextNumber_75 : decode prog_2_method_9_code 75 = .ok (.iload_n 1, 1) := by decide +kernel
theorem d_P_nextNumber_76 : decode prog_2_method_9_code 76 = .ok (.ireturn, 1) := by decide +kernel
abbrev y_P_takeReaders : MethodName := ⟨"FrameTables$Parser", "takeReaders", "(LFrameTables$Table;)Z"⟩
abbrev m_P_takeReaders : MethodName × ByteArray × Nat × Option FieldType := (y_P_takeReaders, prog_2_method_5_code, 6, some .boolean)
theorem mi_P_takeReaders : .code y_P_takeReaders prog_2_method_5_code 6 (some .boolean) ∈ wT := wT_m 503 (by decide +kernel) rfl
theorem d_P_takeReaders_0 : decode prog_2_method_5_code 0 = .ok (.iconst 0, 1) := by decide +kernel
theorem d_P_takeReaders_1 : decode prog_2_method_5_code 1 = .ok (.istore_n 2, 1) := by decide +kernel
theorem d_P_takeReaders_2 : decode prog_2_method_5_code 2 = .ok (.iload_n 2, 1) := by decide +kernel
theorem d_P_takeReaders_3 : decode prog_2_method_5_code 3 = .ok (.sipush 2000, 3) := by decide +kernel
theorem d_P_takeReaders_6 : decode prog_2_method_5_code 6 = .ok (.if_icmp .gt 67, 3) := by decide +kernel
theorem d_P_takeReaders_9 : decode prog_2_method_5_code 9 = .ok (.aload_n 0, 1) := by decide +kernel
theorem d_P_takeReaders_10 : decode prog_2_method_5_code 10 = .ok (.invokevirtual 44, 3) := by decide +kernel
theorem d_P_takeReaders_13 : decode prog_2_method_5_code 13 = .ok (.ifCond .ne 5, 3) := by decide +kernel
theorem d_P_takeReaders_16 : decode prog_2_method_5_code 16 = .ok (.iconst 1, 1) := by decide +kernel
theorem d_P_takeReaders_17 : decode prog_2_method_5_code 17 = .ok (.ireturn, 1) := by decide +kernel
theorem d_P_takeReaders_18 : decode prog_2_method_5_code 18 = .ok (.aload_n 0, 1) := by decide +kernel
theorem d_P_takeReaders_19 : decode prog_2_method_5_code 19 = .ok (.ldc 81, 2) := by decide +kernel
theorem d_P_takeReaders_21 : decode prog_2_method_5_code 21 = .ok (.invokevirtual 50, 3) := by decide +kernel
theorem d_P_takeReaders_24 : decode prog_2_method_5_code 24 = .ok (.istore_n 3, 1) := by decide +kernel
theorem d_P_takeReaders_25 : decode prog_2_method_5_code 25 = .ok (.aload_n 0, 1) := by decide +kernel
theorem d_P_takeReaders_26 : decode prog_2_method_5_code 26 = .ok (.invokevirtual 61, 3) := by decide +kernel
theorem d_P_takeReaders_29 : decode prog_2_method_5_code 29 = .ok (.istore 4, 2) := by decide +kernel
theorem d_P_takeReaders_31 : decode prog_2_method_5_code 31 = .ok (.aload_n 0, 1) := by decide +kernel
theorem d_P_takeReaders_32 : decode prog_2_method_5_code 32 = .ok (.invokevirtual 61, 3) := by decide +kernel
theorem d_P_takeReaders_35 : decode prog_2_method_5_code 35 = .ok (.istore 5, 2) := by decide +kernel
theorem d_P_takeReaders_37 : decode prog_2_method_5_code 37 = .ok (.iload_n 3, 1) := by decide +kernel
theorem d_P_takeReaders_38 : decode prog_2_method_5_code 38 = .ok (.ifCond .eq 15, 3) := by decide +kernel
theorem d_P_takeReaders_41 : decode prog_2_method_5_code 41 = .ok (.aload_n 0, 1) := by decide +kernel
theorem d_P_takeReaders_42 : decode prog_2_method_5_code 42 = .ok (.aload_n 1, 1) := by decide +kernel
theorem d_P_takeReaders_43 : decode prog_2_method_5_code 43 = .ok (.iload 4, 2) := by decide +kernel
theorem d_P_takeReaders_45 : decode prog_2_method_5_code 45 = .ok (.iload 5, 2) := by decide +kernel
theorem d_P_takeReaders_47 : decode prog_2_method_5_code 47 = .ok (.invokevirtual 83, 3) := by decide +kernel
theorem d_P_takeReaders_50 : decode prog_2_method_5_code 50 = .ok (.ifCond .ne 5, 3) := by decide +kernel
theorem d_P_takeReaders_53 : decode prog_2_method_5_code 53 = .ok (.iconst 0, 1) := by decide +kernel
theorem d_P_takeReaders_54 : decode prog_2_method_5_code 54 = .ok (.ireturn, 1) := by decide +kernel
theorem d_P_takeReaders_55 : decode prog_2_method_5_code 55 = .ok (.aload_n 1, 1) := by decide +kernel
theorem d_P_takeReaders_56 : decode prog_2_method_5_code 56 = .ok (.aload_n 1, 1) := by decide +kernel
theorem d_P_takeReaders_57 : decode prog_2_method_5_code 57 = .ok (.invokevirtual 87, 3) := by decide +kernel
theorem d_P_takeReaders_60 : decode prog_2_method_5_code 60 = .ok (.iload 4, 2) := by decide +kernel
theorem d_P_takeReaders_62 : decode prog_2_method_5_code 62 = .ok (.iload 5, 2) := by decide +kernel
theorem d_P_takeReaders_64 : decode prog_2_method_5_code 64 = .ok (.invokevirtual 90, 3) := by decide +kernel
theorem d_P_takeReaders_67 : decode prog_2_method_5_code 67 = .ok (.iinc 2 1, 3) := by decide +kernel
theorem d_P_takeReaders_70 : decode prog_2_method_5_code 70 = .ok (.goto (-68), 3) := by decide +kernel
theorem d_P_takeReaders_73 : decode prog_2_method_5_code 73 = .ok (.iconst 0, 1) := by decide +kernel
theorem d_P_takeReaders_74 : decode prog_2_method_5_code 74 = .ok (.ireturn, 1) := by decide +kernel
abbrev y_P_mayRead : MethodName := ⟨"FrameTables$Parser", "mayRead", "(LFrameTables$Table;II)Z"⟩
abbrev m_P_mayRead : MethodName × ByteArray × Nat × Option FieldType := (y_P_mayRead, prog_2_method_6_code, 4, some .boolean)
theorem mi_P_mayRead : .code y_P_mayRead prog_2_method_6_code 4 (some .boolean) ∈ wT := wT_m 508 (by decide +kernel) rfl
theorem d_P_mayRead_0 : decode prog_2_method_6_code 0 = .ok (.iload_n 2, 1) := by decide +kernel
theorem d_P_mayRead_1 : decode prog_2_method_6_code 1 = .ok (.invokestatic 64, 3) := by decide +kernel
theorem d_P_mayRead_4 : decode prog_2_method_6_code 4 = .ok (.ifCond .eq 31, 3) := by decide +kernel
theorem d_P_mayRead_7 : decode prog_2_method_6_code 7 = .ok (.iload_n 2, 1) := by decide +kernel
theorem d_P_mayRead_8 : decode prog_2_method_6_code 8 = .ok (.aload_n 1, 1) := by decide +kernel
theorem d_P_mayRead_9 : decode prog_2_method_6_code 9 = .ok (.aload_n 1, 1) := by decide +kernel
theorem d_P_mayRead_10 : decode prog_2_method_6_code 10 = .ok (.invokevirtual 87, 3) := by decide +kernel
theorem d_P_mayRead_13 : decode prog_2_method_6_code 13 = .ok (.invokevirtual 94, 3) := by decide +kernel
theorem d_P_mayRead_16 : decode prog_2_method_6_code 16 = .ok (.if_icmp .eq 19, 3) := by decide +kernel
theorem d_P_mayRead_19 : decode prog_2_method_6_code 19 = .ok (.iload_n 3, 1) := by decide +kernel
theorem d_P_mayRead_20 : decode prog_2_method_6_code 20 = .ok (.iconst 1, 1) := by decide +kernel
theorem d_P_mayRead_21 : decode prog_2_method_6_code 21 = .ok (.if_icmp .lt 14, 3) := by decide +kernel
theorem d_P_mayRead_24 : decode prog_2_method_6_code 24 = .ok (.iload_n 3, 1) := by decide +kernel
theorem d_P_mayRead_25 : decode prog_2_method_6_code 25 = .ok (.sipush 10000, 3) := by decide +kernel
theorem d_P_mayRead_28 : decode prog_2_method_6_code 28 = .ok (.if_icmp .gt 7, 3) := by decide +kernel
theorem d_P_mayRead_31 : decode prog_2_method_6_code 31 = .ok (.iconst 1, 1) := by decide +kernel
theorem d_P_mayRead_32 : decode prog_2_method_6_code 32 = .ok (.goto 4, 3) := by decide +kernel
theorem d_P_mayRead_35 : decode prog_2_method_6_code 35 = .ok (.iconst 0, 1) := by decide +kernel
theorem d_P_mayRead_36 : decode prog_2_method_6_code 36 = .ok (.ireturn, 1) := by decide +kernel
abbrev y_F_print : MethodName := ⟨"FrameTables", "print", "()I"⟩
abbrev m_F_print : MethodName × ByteArray × Nat × Option FieldType := (y_F_print, prog_1_method_13_code, 2, some .int)
theorem mi_F_print : .code y_F_print prog_1_method_13_code 2 (some .int) ∈ wT := wT_m 520 (by decide +kernel) rfl
theorem d_F_print_0 : decode prog_1_method_13_code 0 = .ok (.aload_n 0, 1) := by decide +kernel
theorem d_F_print_1 : decode prog_1_method_13_code 1 = .ok (.getfield 29, 3) := by decide +kernel
theorem d_F_print_4 : decode prog_1_method_13_code 4 = .ok (.invokevirtual 142, 3) := by decide +kernel
theorem d_F_print_7 : decode prog_1_method_13_code 7 = .ok (.iconst 1, 1) := by decide +kernel
theorem d_F_print_8 : decode prog_1_method_13_code 8 = .ok (.istore_n 1, 1) := by decide +kernel
theorem d_F_print_9 : decode prog_1_method_13_code 9 = .ok (.iload_n 1, 1) := by decide +kernel
theorem d_F_print_10 : decode prog_1_method_13_code 10 = .ok (.aload_n 0, 1) := by decide +kernel
theorem d_F_print_11 : decode prog_1_method_13_code 11 = .ok (.getfield 10, 3) := by decide +kernel
theorem d_F_print_14 : decode prog_1_method_13_code 14 = .ok (.invokevirtual 127, 3) := by decide +kernel
theorem d_F_print_17 : decode prog_1_method_13_code 17 = .ok (.if_icmp .gt 14, 3) := by decide +kernel
theorem d_F_print_20 : decode prog_1_method_13_code 20 = .ok (.aload_n 0, 1) := by decide +kernel
theorem d_F_print_21 : decode prog_1_method_13_code 21 = .ok (.iload_n 1, 1) := by decide +kernel
theorem d_F_print_22 : decode prog_1_method_13_code 22 = .ok (.invokevirtual 145, 3) := by decide +kernel
theorem d_F_print_25 : decode prog_1_method_13_code 25 = .ok (.iinc 1 1, 3) := by decide +kernel
theorem d_F_print_28 : decode prog_1_method_13_code 28 = .ok (.goto (-19), 3) := by decide +kernel
theorem d_F_print_31 : decode prog_1_method_13_code 31 = .ok (.aload_n 0, 1) := by decide +kernel
theorem d_F_print_32 : decode prog_1_method_13_code 32 = .ok (.getfield 29, 3) := by decide +kernel
theorem d_F_print_35 : decode prog_1_method_13_code 35 = .ok (.invokevirtual 149, 3) := by decide +kernel
theorem d_F_print_38 : decode prog_1_method_13_code 38 = .ok (.ifCond .eq 13, 3) := by decide +kernel
theorem d_F_print_41 : decode prog_1_method_13_code 41 = .ok (.aload_n 0, 1) := by decide +kernel
theorem d_F_print_42 : decode prog_1_method_13_code 42 = .ok (.getfield 29, 3) := by decide +kernel
theorem d_F_print_45 : decode prog_1_method_13_code 45 = .ok (.invokevirtual 142, 3) := by decide +kernel
theorem d_F_print_48 : decode prog_1_method_13_code 48 = .ok (.bipush (-4), 2) := by decide +kernel
theorem d_F_print_50 : decode prog_1_method_13_code 50 = .ok (.ireturn, 1) := by decide +kernel
theorem d_F_print_51 : decode prog_1_method_13_code 51 = .ok (.aload_n 0, 1) := by decide +kernel
theorem d_F_print_52 : decode prog_1_method_13_code 52 = .ok (.getfield 29, 3) := by decide +kernel
theorem d_F_print_55 : decode prog_1_method_13_code 55 = .ok (.invokevirtual 152, 3) := by decide +kernel
theorem d_F_print_58 : decode prog_1_method_13_code 58 = .ok (.ireturn, 1) := by decide +kernel
abbrev y_F_writeLine : MethodName := ⟨"FrameTables", "writeLine", "(I)V"⟩
abbrev m_F_writeLine : MethodName × ByteArray × Nat × Option FieldType := (y_F_writeLine, prog_1_method_22_code, 3, none)
theorem mi_F_writeLine : .code y_F_writeLine prog_1_method_22_code 3 none ∈ wT := wT_m 524 (by decide +kernel) rfl
theorem d_F_writeLine_0 : decode prog_1_method_22_code 0 = .ok (.aload_n 0, 1) := by decide +kernel
theorem d_F_writeLine_1 : decode prog_1_method_22_code 1 = .ok (.getfield 29, 3) := by decide +kernel
theorem d_F_writeLine_4 : decode prog_1_method_22_code 4 = .ok (.ldc 177, 2) := by decide +kernel
theorem d_F_writeLine_6 : decode prog_1_method_22_code 6 = .ok (.invokevirtual 179, 3) := by decide +kernel
theorem d_F_writeLine_9 : decode prog_1_method_22_code 9 = .ok (.aload_n 0, 1) := by decide +kernel
theorem d_F_writeLine_10 : decode prog_1_method_22_code 10 = .ok (.getfield 29, 3) := by decide +kernel
theorem d_F_writeLine_13 : decode prog_1_method_22_code 13 = .ok (.aload_n 0, 1) := by decide +kernel
theorem d_F_writeLine_14 : decode prog_1_method_22_code 14 = .ok (.getfield 10, 3) := by decide +kernel
theorem d_F_writeLine_17 : decode prog_1_method_22_code 17 = .ok (.iload_n 1, 1) := by decide +kernel
theorem d_F_writeLine_18 : decode prog_1_method_22_code 18 = .ok (.invokevirtual 74, 3) := by decide +kernel
theorem d_F_writeLine_21 : decode prog_1_method_22_code 21 = .ok (.invokevirtual 183, 3) := by decide +kernel
theorem d_F_writeLine_24 : decode prog_1_method_22_code 24 = .ok (.aload_n 0, 1) := by decide +kernel
theorem d_F_writeLine_25 : decode prog_1_method_22_code 25 = .ok (.getfield 29, 3) := by decide +kernel
theorem d_F_writeLine_28 : decode prog_1_method_22_code 28 = .ok (.aload_n 0, 1) := by decide +kernel
theorem d_F_writeLine_29 : decode prog_1_method_22_code 29 = .ok (.getfield 10, 3) := by decide +kernel
theorem d_F_writeLine_32 : decode prog_1_method_22_code 32 = .ok (.iload_n 1, 1) := by decide +kernel
theorem d_F_writeLine_33 : decode prog_1_method_22_code 33 = .ok (.invokevirtual 120, 3) := by decide +kernel
theorem d_F_writeLine_36 : decode prog_1_method_22_code 36 = .ok (.invokevirtual 183, 3) := by decide +kernel
theorem d_F_writeLine_39 : decode prog_1_method_22_code 39 = .ok (.aload_n 0, 1) := by decide +kernel
theorem d_F_writeLine_40 : decode prog_1_method_22_code 40 = .ok (.getfield 29, 3) := by decide +kernel
theorem d_F_writeLine_43 : decode prog_1_method_22_code 43 = .ok (.aload_n 0, 1) := by decide +kernel
theorem d_F_writeLine_44 : decode prog_1_method_22_code 44 = .ok (.getfield 10, 3) := by decide +kernel
theorem d_F_writeLine_47 : decode prog_1_method_22_code 47 = .ok (.iload_n 1, 1) := by decide +kernel
theorem d_F_writeLine_48 : decode prog_1_method_22_code 48 = .ok (.invokevirtual 186, 3) := by decide +kernel
theorem d_F_writeLine_51 : decode prog_1_method_22_code 51 = .ok (.invokevirtual 183, 3) := by decide +kernel
theorem d_F_writeLine_54 : decode prog_1_method_22_code 54 = .ok (.aload_n 0, 1) := by decide +kernel
theorem d_F_writeLine_55 : decode prog_1_method_22_code 55 = .ok (.getfield 29, 3) := by decide +kernel
theorem d_F_writeLine_58 : decode prog_1_method_22_code 58 = .ok (.aload_n 0, 1) := by decide +kernel
theorem d_F_writeLine_59 : decode prog_1_method_22_code 59 = .ok (.getfield 10, 3) := by decide +kernel
theorem d_F_writeLine_62 : decode prog_1_method_22_code 62 = .ok (.iload_n 1, 1) := by decide +kernel
theorem d_F_writeLine_63 : decode prog_1_method_22_code 63 = .ok (.invokevirtual 189, 3) := by decide +kernel
theorem d_F_writeLine_66 : decode prog_1_method_22_code 66 = .ok (.invokevirtual 183, 3) := by decide +kernel
theorem d_F_writeLine_69 : decode prog_1_method_22_code 69 = .ok (.iconst 1, 1) := by decide +kernel
theorem d_F_writeLine_70 : decode prog_1_method_22_code 70 = .ok (.istore_n 2, 1) := by decide +kernel
theorem d_F_writeLine_71 : decode prog_1_method_22_code 71 = .ok (.iload_n 2, 1) := by decide +kernel
theorem d_F_writeLine_72 : decode prog_1_method_22_code 72 = .ok (.bipush 20, 2) := by decide +kernel
theorem d_F_writeLine_74 : decode prog_1_method_22_code 74 = .ok (.if_icmp .gt 63, 3) := by decide +kernel
theorem d_F_writeLine_77 : decode prog_1_method_22_code 77 = .ok (.aload_n 0, 1) := by decide +kernel
theorem d_F_writeLine_78 : decode prog_1_method_22_code 78 = .ok (.getfield 10, 3) := by decide +kernel
theorem d_F_writeLine_81 : decode prog_1_method_22_code 81 = .ok (.iload_n 1, 1) := by decide +kernel
theorem d_F_writeLine_82 : decode prog_1_method_22_code 82 = .ok (.iload_n 2, 1) := by decide +kernel
theorem d_F_writeLine_83 : decode prog_1_method_22_code 83 = .ok (.invokevirtual 192, 3) := by decide +kernel
theorem d_F_writeLine_86 : decode prog_1_method_22_code 86 = .ok (.ifCond .eq 45, 3) := by decide +kernel
theorem d_F_writeLine_89 : decode prog_1_method_22_code 89 = .ok (.aload_n 0, 1) := by decide +kernel
theorem d_F_writeLine_90 : decode prog_1_method_22_code 90 = .ok (.getfield 29, 3) := by decide +kernel
theorem d_F_writeLine_93 : decode prog_1_method_22_code 93 = .ok (.bipush 32, 2) := by decide +kernel
theorem d_F_writeLine_95 : decode prog_1_method_22_code 95 = .ok (.invokevirtual 135, 3) := by decide +kernel
theorem d_F_writeLine_98 : decode prog_1_method_22_code 98 = .ok (.aload_n 0, 1) := by decide +kernel
theorem d_F_writeLine_99 : decode prog_1_method_22_code 99 = .ok (.getfield 29, 3) := by decide +kernel
theorem d_F_writeLine_102 : decode prog_1_method_22_code 102 = .ok (.ldc 195, 2) := by decide +kernel
theorem d_F_writeLine_104 : decode prog_1_method_22_code 104 = .ok (.invokevirtual 179, 3) := by decide +kernel
theorem d_F_writeLine_107 : decode prog_1_method_22_code 107 = .ok (.aload_n 0, 1) := by decide +kernel
theorem d_F_writeLine_108 : decode prog_1_method_22_code 108 = .ok (.getfield 29, 3) := by decide +kernel
theorem d_F_writeLine_111 : decode prog_1_method_22_code 111 = .ok (.iload_n 2, 1) := by decide +kernel
theorem d_F_writeLine_112 : decode prog_1_method_22_code 112 = .ok (.invokevirtual 183, 3) := by decide +kernel
theorem d_F_writeLine_115 : decode prog_1_method_22_code 115 = .ok (.aload_n 0, 1) := by decide +kernel
theorem d_F_writeLine_116 : decode prog_1_method_22_code 116 = .ok (.getfield 29, 3) := by decide +kernel
theorem d_F_writeLine_119 : decode prog_1_method_22_code 119 = .ok (.aload_n 0, 1) := by decide +kernel
theorem d_F_writeLine_120 : decode prog_1_method_22_code 120 = .ok (.getfield 10, 3) := by decide +kernel
theorem d_F_writeLine_123 : decode prog_1_method_22_code 123 = .ok (.iload_n 1, 1) := by decide +kernel
theorem d_F_writeLine_124 : decode prog_1_method_22_code 124 = .ok (.iload_n 2, 1) := by decide +kernel
theorem d_F_writeLine_125 : decode prog_1_method_22_code 125 = .ok (.invokevirtual 196, 3) := by decide +kernel
theorem d_F_writeLine_128 : decode prog_1_method_22_code 128 = .ok (.invokevirtual 183, 3) := by decide +kernel
theorem d_F_writeLine_131 : decode prog_1_method_22_code 131 = .ok (.iinc 2 1, 3) := by decide +kernel
theorem d_F_writeLine_134 : decode prog_1_method_22_code 134 = .ok (.goto (-63), 3) := by decide +kernel
theorem d_F_writeLine_137 : decode prog_1_method_22_code 137 = .ok (.aload_n 0, 1) := by decide +kernel
theorem d_F_writeLine_138 : decode prog_1_method_22_code 138 = .ok (.getfield 29, 3) := by decide +kernel
theorem d_F_writeLine_141 : decode prog_1_method_22_code 141 = .ok (.bipush 10, 2) := by decide +kernel
theorem d_F_writeLine_143 : decode prog_1_method_22_code 143 = .ok (.invokevirtual 135, 3) := by decide +kernel
theorem d_F_writeLine_146 : decode prog_1_method_22_code 146 = .ok (.return_, 1) := by decide +kernel
abbrev y_F_letter : MethodName := ⟨"FrameTables", "letter", "(I)I"⟩
abbrev m_F_letter : MethodName × ByteArray × Nat × Option FieldType := (y_F_letter, prog_1_method_14_code, 3, some .int)
theorem mi_F_letter : .code y_F_letter prog_1_method_14_code 3 (some .int) ∈ wT := wT_m 556 (by decide +kernel) rfl
theorem d_F_letter_0 : decode prog_1_method_14_code 0 = .ok (.aload_n 0, 1) := by decide +kernel
theorem d_F_letter_1 : decode prog_1_method_14_code 1 = .ok (.getfield 29, 3) := by decide +kernel
theorem d_F_letter_4 : decode prog_1_method_14_code 4 = .ok (.iload_n 1, 1) := by decide +kernel
theorem d_F_letter_5 : decode prog_1_method_14_code 5 = .ok (.invokevirtual 155, 3) := by decide +kernel
theorem d_F_letter_8 : decode prog_1_method_14_code 8 = .ok (.istore_n 2, 1) := by decide +kernel
theorem d_F_letter_9 : decode prog_1_method_14_code 9 = .ok (.iload_n 2, 1) := by decide +kernel
theorem d_F_letter_10 : decode prog_1_method_14_code 10 = .ok (.iconst (-1), 1) := by decide +kernel
theorem d_F_letter_11 : decode prog_1_method_14_code 11 = .ok (.if_icmp .ne 7, 3) := by decide +kernel
theorem d_F_letter_14 : decode prog_1_method_14_code 14 = .ok (.iconst (-1), 1) := by decide +kernel
theorem d_F_letter_15 : decode prog_1_method_14_code 15 = .ok (.goto 4, 3) := by decide +kernel
theorem d_F_letter_18 : decode prog_1_method_14_code 18 = .ok (.iload_n 2, 1) := by decide +kernel
theorem d_F_letter_19 : decode prog_1_method_14_code 19 = .ok (.ireturn, 1) := by decide +kernel
abbrev y_F_touched : MethodName := ⟨"FrameTables", "touched", "(II)I"⟩
abbrev m_F_touched : MethodName × ByteArray × Nat × Option FieldType := (y_F_touched, prog_1_method_15_code, 5, some .int)
theorem mi_F_touched : .code y_F_touched prog_1_method_15_code 5 (some .int) ∈ wT := wT_m 561 (by decide +kernel) rfl
theorem d_F_touched_0 : decode prog_1_method_15_code 0 = .ok (.aload_n 0, 1) := by decide +kernel
theorem d_F_touched_1 : decode prog_1_method_15_code 1 = .ok (.getfield 10, 3) := by decide +kernel
theorem d_F_touched_4 : decode prog_1_method_15_code 4 = .ok (.iload_n 1, 1) := by decide +kernel
theorem d_F_touched_5 : decode prog_1_method_15_code 5 = .ok (.invokevirtual 71, 3) := by decide +kernel
theorem d_F_touched_8 : decode prog_1_method_15_code 8 = .ok (.ifCond .ne 5, 3) := by decide +kernel
theorem d_F_touched_11 : decode prog_1_method_15_code 11 = .ok (.iconst (-1), 1) := by decide +kernel
theorem d_F_touched_12 : decode prog_1_method_15_code 12 = .ok (.ireturn, 1) := by decide +kernel
theorem d_F_touched_13 : decode prog_1_method_15_code 13 = .ok (.iconst 0, 1) := by decide +kernel
theorem d_F_touched_14 : decode prog_1_method_15_code 14 = .ok (.istore_n 3, 1) := by decide +kernel
theorem d_F_touched_15 : decode prog_1_method_15_code 15 = .ok (.iconst 1, 1) := by decide +kernel
theorem d_F_touched_16 : decode prog_1_method_15_code 16 = .ok (.istore 4, 2) := by decide +kernel
theorem d_F_touched_18 : decode prog_1_method_15_code 18 = .ok (.iload 4, 2) := by decide +kernel
theorem d_F_touched_20 : decode prog_1_method_15_code 20 = .ok (.bipush 20, 2) := by decide +kernel
theorem d_F_touched_22 : decode prog_1_method_15_code 22 = .ok (.if_icmp .gt 33, 3) := by decide +kernel
theorem d_F_touched_25 : decode prog_1_method_15_code 25 = .ok (.aload_n 0, 1) := by decide +kernel
theorem d_F_touched_26 : decode prog_1_method_15_code 26 = .ok (.getfield 10, 3) := by decide +kernel
theorem d_F_touched_29 : decode prog_1_method_15_code 29 = .ok (.iload_n 1, 1) := by decide +kernel
theorem d_F_touched_30 : decode prog_1_method_15_code 30 = .ok (.iload 4, 2) := by decide +kernel
theorem d_F_touched_32 : decode prog_1_method_15_code 32 = .ok (.invokevirtual 158, 3) := by decide +kernel
theorem d_F_touched_35 : decode prog_1_method_15_code 35 = .ok (.ifCond .eq 14, 3) := by decide +kernel
theorem d_F_touched_38 : decode prog_1_method_15_code 38 = .ok (.iload_n 3, 1) := by decide +kernel
theorem d_F_touched_39 : decode prog_1_method_15_code 39 = .ok (.iload_n 2, 1) := by decide +kernel
theorem d_F_touched_40 : decode prog_1_method_15_code 40 = .ok (.if_icmp .ne 6, 3) := by decide +kernel
theorem d_F_touched_43 : decode prog_1_method_15_code 43 = .ok (.iload 4, 2) := by decide +kernel
theorem d_F_touched_45 : decode prog_1_method_15_code 45 = .ok (.ireturn, 1) := by decide +kernel
theorem d_F_touched_46 : decode prog_1_method_15_code 46 = .ok (.iinc 3 1, 3) := by decide +kernel
theorem d_F_touched_49 : decode prog_1_method_15_code 49 = .ok (.iinc 4 1, 3) := by decide +kernel
theorem d_F_touched_52 : decode prog_1_method_15_code 52 = .ok (.goto (-34), 3) := by decide +kernel
theorem d_F_touched_55 : decode prog_1_method_15_code 55 = .ok (.iconst 0, 1) := by decide +kernel
theorem d_F_touched_56 : decode prog_1_method_15_code 56 = .ok (.ireturn, 1) := by decide +kernel
end
section
abbrev y_Q_init : MethodName := ⟨"FrameTables$Search", "<init>", "()V"⟩
abbrev m_Q_init : MethodName × ByteArray × Nat × Option FieldType := (y_Q_init, prog_3_method_1_code, 1, none)
theorem mi_Q_init : .code y_Q_init prog_3_method_1_code 1 none ∈ wT := wT_m 143 (by decide +kernel) rfl
theorem d_Q_init_0 : decode prog_3_method_1_code 0 = .ok (.aload_n 0, 1) := by decide +kernel
theorem d_Q_init_1 : decode prog_3_method_1_code 1 = .ok (.invokespecial 3, 3) := by decide +kernel
theorem d_Q_init_4 : decode prog_3_method_1_code 4 = .ok (.aload_n 0, 1) := by decide +kernel
theorem d_Q_init_5 : decode prog_3_method_1_code 5 = .ok (.bipush 40, 2) := by decide +kernel
theorem d_Q_init_7 : decode prog_3_method_1_code 7 = .ok (.newarray .int, 2) := by decide +kernel
theorem d_Q_init_9 : decode prog_3_method_1_code 9 = .ok (.putfield 9, 3) := by decide +kernel
theorem d_Q_init_12 : decode prog_3_method_1_code 12 = .ok (.aload_n 0, 1) := by decide +kernel
theorem d_Q_init_13 : decode prog_3_method_1_code 13 = .ok (.bipush 40, 2) := by decide +kernel
theorem d_Q_init_15 : decode prog_3_method_1_code 15 = .ok (.newarray .int, 2) := by decide +kernel
theorem d_Q_init_17 : decode prog_3_method_1_code 17 = .ok (.putfield 15, 3) := by decide +kernel
theorem d_Q_init_20 : decode prog_3_method_1_code 20 = .ok (.aload_n 0, 1) := by decide +kernel
theorem d_Q_init_21 : decode prog_3_method_1_code 21 = .ok (.bipush 40, 2) := by decide +kernel
theorem d_Q_init_23 : decode prog_3_method_1_code 23 = .ok (.newarray .int, 2) := by decide +kernel
theorem d_Q_init_25 : decode prog_3_method_1_code 25 = .ok (.putfield 18, 3) := by decide +kernel
theorem d_Q_init_28 : decode prog_3_method_1_code 28 = .ok (.aload_n 0, 1) := by decide +kernel
theorem d_Q_init_29 : decode prog_3_method_1_code 29 = .ok (.bipush 40, 2) := by decide +kernel
theorem d_Q_init_31 : decode prog_3_method_1_code 31 = .ok (.newarray .int, 2) := by decide +kernel
theorem d_Q_init_33 : decode prog_3_method_1_code 33 = .ok (.putfield 21, 3) := by decide +kernel
theorem d_Q_init_36 : decode prog_3_method_1_code 36 = .ok (.aload_n 0, 1) := by decide +kernel
theorem d_Q_init_37 : decode prog_3_method_1_code 37 = .ok (.bipush 40, 2) := by decide +kernel
theorem d_Q_init_39 : decode prog_3_method_1_code 39 = .ok (.newarray .int, 2) := by decide +kernel
theorem d_Q_init_41 : decode prog_3_method_1_code 41 = .ok (.putfield 24, 3) := by decide +kernel
theorem d_Q_init_44 : decode prog_3_method_1_code 44 = .ok (.aload_n 0, 1) := by decide +kernel
theorem d_Q_init_45 : decode prog_3_method_1_code 45 = .ok (.sipush 420, 3) := by decide +kernel
theorem d_Q_init_48 : decode prog_3_method_1_code 48 = .ok (.newarray .int, 2) := by decide +kernel
theorem d_Q_init_50 : decode prog_3_method_1_code 50 = .ok (.putfield 27, 3) := by decide +kernel
theorem d_Q_init_53 : decode prog_3_method_1_code 53 = .ok (.aload_n 0, 1) := by decide +kernel
theorem d_Q_init_54 : decode prog_3_method_1_code 54 = .ok (.iconst 0, 1) := by decide +kernel
theorem d_Q_init_55 : decode prog_3_method_1_code 55 = .ok (.putfield 30, 3) := by decide +kernel
theorem d_Q_init_58 : decode prog_3_method_1_code 58 = .ok (.aload_n 0, 1) := by decide +kernel
theorem d_Q_init_59 : decode prog_3_method_1_code 59 = .ok (.iconst (-1), 1) := by decide +kernel
theorem d_Q_init_60 : decode prog_3_method_1_code 60 = .ok (.putfield 34, 3) := by decide +kernel
theorem d_Q_init_63 : decode prog_3_method_1_code 63 = .ok (.aload_n 0, 1) := by decide +kernel
theorem d_Q_init_64 : decode prog_3_method_1_code 64 = .ok (.iconst 0, 1) := by decide +kernel
theorem d_Q_init_65 : decode prog_3_method_1_code 65 = .ok (.putfield 37, 3) := by decide +kernel
theorem d_Q_init_68 : decode prog_3_method_1_code 68 = .ok (.return_, 1) := by decide +kernel
abbrev y_Q_begin : MethodName := ⟨"FrameTables$Search", "begin", "(LFrameTables$Table;)V"⟩
abbrev m_Q_begin : MethodName × ByteArray × Nat × Option FieldType := (y_Q_begin, prog_3_method_2_code, 2, none)
theorem mi_Q_begin : .code y_Q_begin prog_3_method_2_code 2 none ∈ wT := wT_m 294 (by decide +kernel) rfl
theorem d_Q_begin_0 : decode prog_3_method_2_code 0 = .ok (.aload_n 0, 1) := by decide +kernel
theorem d_Q_begin_1 : decode prog_3_method_2_code 1 = .ok (.aload_n 1, 1) := by decide +kernel
theorem d_Q_begin_2 : decode prog_3_method_2_code 2 = .ok (.invokevirtual 40, 3) := by decide +kernel
theorem d_Q_begin_5 : decode prog_3_method_2_code 5 = .ok (.aload_n 0, 1) := by decide +kernel
theorem d_Q_begin_6 : decode prog_3_method_2_code 6 = .ok (.bipush 41, 2) := by decide +kernel
theorem d_Q_begin_8 : decode prog_3_method_2_code 8 = .ok (.putfield 37, 3) := by decide +kernel
theorem d_Q_begin_11 : decode prog_3_method_2_code 11 = .ok (.aload_n 0, 1) := by decide +kernel
theorem d_Q_begin_12 : decode prog_3_method_2_code 12 = .ok (.iconst (-1), 1) := by decide +kernel
theorem d_Q_begin_13 : decode prog_3_method_2_code 13 = .ok (.putfield 34, 3) := by decide +kernel
theorem d_Q_begin_16 : decode prog_3_method_2_code 16 = .ok (.aload_n 0, 1) := by decide +kernel
theorem d_Q_begin_17 : decode prog_3_method_2_code 17 = .ok (.getfield 30, 3) := by decide +kernel
theorem d_Q_begin_20 : decode prog_3_method_2_code 20 = .ok (.ifCond .le 9, 3) := by decide +kernel
theorem d_Q_begin_23 : decode prog_3_method_2_code 23 = .ok (.aload_n 0, 1) := by decide +kernel
theorem d_Q_begin_24 : decode prog_3_method_2_code 24 = .ok (.iconst 0, 1) := by decide +kernel
theorem d_Q_begin_25 : decode prog_3_method_2_code 25 = .ok (.iconst 0, 1) := by decide +kernel
theorem d_Q_begin_26 : decode prog_3_method_2_code 26 = .ok (.invokevirtual 44, 3) := by decide +kernel
theorem d_Q_begin_29 : decode prog_3_method_2_code 29 = .ok (.return_, 1) := by decide +kernel
abbrev y_Q_lay : MethodName := ⟨"FrameTables$Search", "lay", "(LFrameTables$Table;)V"⟩
abbrev m_Q_lay : MethodName × ByteArray × Nat × Option FieldType := (y_Q_lay, prog_3_method_7_code, 4, none)
theorem mi_Q_lay : .code y_Q_lay prog_3_method_7_code 4 none ∈ wT := wT_m 298 (by decide +kernel) rfl
theorem d_Q_lay_0 : decode prog_3_method_7_code 0 = .ok (.iconst 0, 1) := by decide +kernel
theorem d_Q_lay_1 : decode prog_3_method_7_code 1 = .ok (.istore_n 2, 1) := by decide +kernel
theorem d_Q_lay_2 : decode prog_3_method_7_code 2 = .ok (.iload_n 2, 1) := by decide +kernel
theorem d_Q_lay_3 : decode prog_3_method_7_code 3 = .ok (.sipush 420, 3) := by decide +kernel
theorem d_Q_lay_6 : decode prog_3_method_7_code 6 = .ok (.if_icmp .ge 16, 3) := by decide +kernel
theorem d_Q_lay_9 : decode prog_3_method_7_code 9 = .ok (.aload_n 0, 1) := by decide +kernel
theorem d_Q_lay_10 : decode prog_3_method_7_code 10 = .ok (.getfield 27, 3) := by decide +kernel
theorem d_Q_lay_13 : decode prog_3_method_7_code 13 = .ok (.iload_n 2, 1) := by decide +kernel
theorem d_Q_lay_14 : decode prog_3_method_7_code 14 = .ok (.iconst 0, 1) := by decide +kernel
theorem d_Q_lay_15 : decode prog_3_method_7_code 15 = .ok (.iastore, 1) := by decide +kernel
theorem d_Q_lay_16 : decode prog_3_method_7_code 16 = .ok (.iinc 2 1, 3) := by decide +kernel
theorem d_Q_lay_19 : decode prog_3_method_7_code 19 = .ok (.goto (-17), 3) := by decide +kernel
theorem d_Q_lay_22 : decode prog_3_method_7_code 22 = .ok (.aload_n 0, 1) := by decide +kernel
theorem d_Q_lay_23 : decode prog_3_method_7_code 23 = .ok (.iconst 0, 1) := by decide +kernel
theorem d_Q_lay_24 : decode prog_3_method_7_code 24 = .ok (.putfield 30, 3) := by decide +kernel
theorem d_Q_lay_27 : decode prog_3_method_7_code 27 = .ok (.iconst 1, 1) := by decide +kernel
theorem d_Q_lay_28 : decode prog_3_method_7_code 28 = .ok (.istore_n 2, 1) := by decide +kernel
theorem d_Q_lay_29 : decode prog_3_method_7_code 29 = .ok (.iload_n 2, 1) := by decide +kernel
theorem d_Q_lay_30 : decode prog_3_method_7_code 30 = .ok (.aload_n 1, 1) := by decide +kernel
theorem d_Q_lay_31 : decode prog_3_method_7_code 31 = .ok (.invokevirtual 80, 3) := by decide +kernel
theorem d_Q_lay_34 : decode prog_3_method_7_code 34 = .ok (.if_icmp .gt 66, 3) := by decide +kernel
theorem d_Q_lay_37 : decode prog_3_method_7_code 37 = .ok (.aload_n 0, 1) := by decide +kernel
theorem d_Q_lay_38 : decode prog_3_method_7_code 38 = .ok (.getfield 30, 3) := by decide +kernel
theorem d_Q_lay_41 : decode prog_3_method_7_code 41 = .ok (.bipush 40, 2) := by decide +kernel
theorem d_Q_lay_43 : decode prog_3_method_7_code 43 = .ok (.if_icmp .ge 57, 3) := by decide +kernel
theorem d_Q_lay_46 : decode prog_3_method_7_code 46 = .ok (.aload_n 1, 1) := by decide +kernel
theorem d_Q_lay_47 : decode prog_3_method_7_code 47 = .ok (.iload_n 2, 1) := by decide +kernel
theorem d_Q_lay_48 : decode prog_3_method_7_code 48 = .ok (.invokevirtual 84, 3) := by decide +kernel
theorem d_Q_lay_51 : decode prog_3_method_7_code 51 = .ok (.istore_n 3, 1) := by decide +kernel
theorem d_Q_lay_52 : decode prog_3_method_7_code 52 = .ok (.iload_n 3, 1) := by decide +kernel
theorem d_Q_lay_53 : decode prog_3_method_7_code 53 = .ok (.ifCond .le 41, 3) := by decide +kernel
theorem d_Q_lay_56 : decode prog_3_method_7_code 56 = .ok (.sipush 420, 3) := by decide +kernel
theorem d_Q_lay_59 : decode prog_3_method_7_code 59 = .ok (.iload_n 3, 1) := by decide +kernel
theorem d_Q_lay_60 : decode prog_3_method_7_code 60 = .ok (.irem, 1) := by decide +kernel
theorem d_Q_lay_61 : decode prog_3_method_7_code 61 = .ok (.ifCond .ne 33, 3) := by decide +kernel
theorem d_Q_lay_64 : decode prog_3_method_7_code 64 = .ok (.aload_n 0, 1) := by decide +kernel
theorem d_Q_lay_65 : decode prog_3_method_7_code 65 = .ok (.getfield 9, 3) := by decide +kernel
theorem d_Q_lay_68 : decode prog_3_method_7_code 68 = .ok (.aload_n 0, 1) := by decide +kernel
theorem d_Q_lay_69 : decode prog_3_method_7_code 69 = .ok (.getfield 30, 3) := by decide +kernel
theorem d_Q_lay_72 : decode prog_3_method_7_code 72 = .ok (.iload_n 2, 1) := by decide +kernel
theorem d_Q_lay_73 : decode prog_3_method_7_code 73 = .ok (.iastore, 1) := by decide +kernel
theorem d_Q_lay_74 : decode prog_3_method_7_code 74 = .ok (.aload_n 0, 1) := by decide +kernel
theorem d_Q_lay_75 : decode prog_3_method_7_code 75 = .ok (.getfield 15, 3) := by decide +kernel
theorem d_Q_lay_78 : decode prog_3_method_7_code 78 = .ok (.aload_n 0, 1) := by decide +kernel
theorem d_Q_lay_79 : decode prog_3_method_7_code 79 = .ok (.getfield 30, 3) := by decide +kernel
theorem d_Q_lay_82 : decode prog_3_method_7_code 82 = .ok (.iload_n 3, 1) := by decide +kernel
theorem d_Q_lay_83 : decode prog_3_method_7_code 83 = .ok (.iastore, 1) := by decide +kernel
theorem d_Q_lay_84 : decode prog_3_method_7_code 84 = .ok (.aload_n 0, 1) := by decide +kernel
theorem d_Q_lay_85 : decode prog_3_method_7_code 85 = .ok (.dup, 1) := by decide +kernel
theorem d_Q_lay_86 : decode prog_3_method_7_code 86 = .ok (.getfield 30, 3) := by decide +kernel
theorem d_Q_lay_89 : decode prog_3_method_7_code 89 = .ok (.iconst 1, 1) := by decide +kernel
theorem d_Q_lay_90 : decode prog_3_method_7_code 90 = .ok (.iadd, 1) := by decide +kernel
theorem d_Q_lay_91 : decode prog_3_method_7_code 91 = .ok (.putfield 30, 3) := by decide +kernel
theorem d_Q_lay_94 : decode prog_3_method_7_code 94 = .ok (.iinc 2 1, 3) := by decide +kernel
theorem d_Q_lay_97 : decode prog_3_method_7_code 97 = .ok (.goto (-68), 3) := by decide +kernel
theorem d_Q_lay_100 : decode prog_3_method_7_code 100 = .ok (.return_, 1) := by decide +kernel
abbrev y_Q_enter : MethodName := ⟨"FrameTables$Search", "enter", "(II)V"⟩
abbrev m_Q_enter : MethodName × ByteArray × Nat × Option FieldType := (y_Q_enter, prog_3_method_8_code, 3, none)
theorem mi_Q_enter : .code y_Q_enter prog_3_method_8_code 3 none ∈ wT := wT_m 310 (by decide +kernel) rfl
theorem d_Q_enter_0 : decode prog_3_method_8_code 0 = .ok (.aload_n 0, 1) := by decide +kernel
theorem d_Q_enter_1 : decode prog_3_method_8_code 1 = .ok (.iload_n 1, 1) := by decide +kernel
theorem d_Q_enter_2 : decode prog_3_method_8_code 2 = .ok (.putfield 34, 3) := by decide +kernel
theorem d_Q_enter_5 : decode prog_3_method_8_code 5 = .ok (.aload_n 0, 1) := by decide +kernel
theorem d_Q_enter_6 : decode prog_3_method_8_code 6 = .ok (.getfield 18, 3) := by decide +kernel
theorem d_Q_enter_9 : decode prog_3_method_8_code 9 = .ok (.iload_n 1, 1) := by decide +kernel
theorem d_Q_enter_10 : decode prog_3_method_8_code 10 = .ok (.iconst 0, 1) := by decide +kernel
theorem d_Q_enter_11 : decode prog_3_method_8_code 11 = .ok (.iastore, 1) := by decide +kernel
theorem d_Q_enter_12 : decode prog_3_method_8_code 12 = .ok (.aload_n 0, 1) := by decide +kernel
theorem d_Q_enter_13 : decode prog_3_method_8_code 13 = .ok (.getfield 21, 3) := by decide +kernel
theorem d_Q_enter_16 : decode prog_3_method_8_code 16 = .ok (.iload_n 1, 1) := by decide +kernel
theorem d_Q_enter_17 : decode prog_3_method_8_code 17 = .ok (.iload_n 2, 1) := by decide +kernel
theorem d_Q_enter_18 : decode prog_3_method_8_code 18 = .ok (.iastore, 1) := by decide +kernel
theorem d_Q_enter_19 : decode prog_3_method_8_code 19 = .ok (.return_, 1) := by decide +kernel
abbrev y_Q_isOver : MethodName := ⟨"FrameTables$Search", "isOver", "()Z"⟩
abbrev m_Q_isOver : MethodName × ByteArray × Nat × Option FieldType := (y_Q_isOver, prog_3_method_3_code, 1, some .boolean)
theorem mi_Q_isOver : .code y_Q_isOver prog_3_method_3_code 1 (some .boolean) ∈ wT := wT_m 314 (by decide +kernel) rfl
theorem d_Q_isOver_0 : decode prog_3_method_3_code 0 = .ok (.aload_n 0, 1) := by decide +kernel
theorem d_Q_isOver_1 : decode prog_3_method_3_code 1 = .ok (.getfield 34, 3) := by decide +kernel
theorem d_Q_isOver_4 : decode prog_3_method_3_code 4 = .ok (.ifCond .ge 7, 3) := by decide +kernel
theorem d_Q_isOver_7 : decode prog_3_method_3_code 7 = .ok (.iconst 1, 1) := by decide +kernel
theorem d_Q_isOver_8 : decode prog_3_method_3_code 8 = .ok (.goto 4, 3) := by decide +kernel
theorem d_Q_isOver_11 : decode prog_3_method_3_code 11 = .ok (.iconst 0, 1) := by decide +kernel
theorem d_Q_isOver_12 : decode prog_3_method_3_code 12 = .ok (.ireturn, 1) := by decide +kernel
abbrev y_Q_step : MethodName := ⟨"FrameTables$Search", "step", "()V"⟩
abbrev m_Q_step : MethodName × ByteArray × Nat × Option FieldType := (y_Q_step, prog_3_method_4_code, 3, none)
theorem mi_Q_step : .code y_Q_step prog_3_method_4_code 3 none ∈ wT := wT_m 318 (by decide +kernel) rfl
theorem d_Q_step_0 : decode prog_3_method_4_code 0 = .ok (.aload_n 0, 1) := by decide +kernel
theorem d_Q_step_1 : decode prog_3_method_4_code 1 = .ok (.invokevirtual 48, 3) := by decide +kernel
theorem d_Q_step_4 : decode prog_3_method_4_code 4 = .ok (.ifCond .eq 4, 3) := by decide +kernel
theorem d_Q_step_7 : decode prog_3_method_4_code 7 = .ok (.return_, 1) := by decide +kernel
theorem d_Q_step_8 : decode prog_3_method_4_code 8 = .ok (.aload_n 0, 1) := by decide +kernel
theorem d_Q_step_9 : decode prog_3_method_4_code 9 = .ok (.getfield 18, 3) := by decide +kernel
theorem d_Q_step_12 : decode prog_3_method_4_code 12 = .ok (.aload_n 0, 1) := by decide +kernel
theorem d_Q_step_13 : decode prog_3_method_4_code 13 = .ok (.getfield 34, 3) := by decide +kernel
theorem d_Q_step_16 : decode prog_3_method_4_code 16 = .ok (.iaload, 1) := by decide +kernel
theorem d_Q_step_17 : decode prog_3_method_4_code 17 = .ok (.istore_n 1, 1) := by decide +kernel
theorem d_Q_step_18 : decode prog_3_method_4_code 18 = .ok (.aload_n 0, 1) := by decide +kernel
theorem d_Q_step_19 : decode prog_3_method_4_code 19 = .ok (.getfield 18, 3) := by decide +kernel
theorem d_Q_step_22 : decode prog_3_method_4_code 22 = .ok (.aload_n 0, 1) := by decide +kernel
theorem d_Q_step_23 : decode prog_3_method_4_code 23 = .ok (.getfield 34, 3) := by decide +kernel
theorem d_Q_step_26 : decode prog_3_method_4_code 26 = .ok (.dup2, 1) := by decide +kernel
theorem d_Q_step_27 : decode prog_3_method_4_code 27 = .ok (.iaload, 1) := by decide +kernel
theorem d_Q_step_28 : decode prog_3_method_4_code 28 = .ok (.iconst 1, 1) := by decide +kernel
theorem d_Q_step_29 : decode prog_3_method_4_code 29 = .ok (.iadd, 1) := by decide +kernel
theorem d_Q_step_30 : decode prog_3_method_4_code 30 = .ok (.iastore, 1) := by decide +kernel
theorem d_Q_step_31 : decode prog_3_method_4_code 31 = .ok (.aload_n 0, 1) := by decide +kernel
theorem d_Q_step_32 : decode prog_3_method_4_code 32 = .ok (.getfield 21, 3) := by decide +kernel
theorem d_Q_step_35 : decode prog_3_method_4_code 35 = .ok (.aload_n 0, 1) := by decide +kernel
theorem d_Q_step_36 : decode prog_3_method_4_code 36 = .ok (.getfield 34, 3) := by decide +kernel
theorem d_Q_step_39 : decode prog_3_method_4_code 39 = .ok (.iaload, 1) := by decide +kernel
theorem d_Q_step_40 : decode prog_3_method_4_code 40 = .ok (.aload_n 0, 1) := by decide +kernel
theorem d_Q_step_41 : decode prog_3_method_4_code 41 = .ok (.aload_n 0, 1) := by decide +kernel
theorem d_Q_step_42 : decode prog_3_method_4_code 42 = .ok (.getfield 34, 3) := by decide +kernel
theorem d_Q_step_45 : decode prog_3_method_4_code 45 = .ok (.iload_n 1, 1) := by decide +kernel
theorem d_Q_step_46 : decode prog_3_method_4_code 46 = .ok (.invokevirtual 52, 3) := by decide +kernel
theorem d_Q_step_49 : decode prog_3_method_4_code 49 = .ok (.invokestatic 56, 3) := by decide +kernel
theorem d_Q_step_52 : decode prog_3_method_4_code 52 = .ok (.istore_n 2, 1) := by decide +kernel
theorem d_Q_step_53 : decode prog_3_method_4_code 53 = .ok (.iload_n 2, 1) := by decide +kernel
theorem d_Q_step_54 : decode prog_3_method_4_code 54 = .ok (.aload_n 0, 1) := by decide +kernel
theorem d_Q_step_55 : decode prog_3_method_4_code 55 = .ok (.getfield 37, 3) := by decide +kernel
theorem d_Q_step_58 : decode prog_3_method_4_code 58 = .ok (.if_icmp .ge 9, 3) := by decide +kernel
theorem d_Q_step_61 : decode prog_3_method_4_code 61 = .ok (.aload_n 0, 1) := by decide +kernel
theorem d_Q_step_62 : decode prog_3_method_4_code 62 = .ok (.iload_n 1, 1) := by decide +kernel
theorem d_Q_step_63 : decode prog_3_method_4_code 63 = .ok (.iload_n 2, 1) := by decide +kernel
theorem d_Q_step_64 : decode prog_3_method_4_code 64 = .ok (.invokevirtual 61, 3) := by decide +kernel
theorem d_Q_step_67 : decode prog_3_method_4_code 67 = .ok (.aload_n 0, 1) := by decide +kernel
theorem d_Q_step_68 : decode prog_3_method_4_code 68 = .ok (.invokevirtual 64, 3) := by decide +kernel
theorem d_Q_step_71 : decode prog_3_method_4_code 71 = .ok (.return_, 1) := by decide +kernel
abbrev y_Q_mostBeginsWith : MethodName := ⟨"FrameTables$Search", "mostBeginsWith", "(II)I"⟩
abbrev m_Q_mostBeginsWith : MethodName × ByteArray × Nat × Option FieldType := (y_Q_mostBeginsWith, prog_3_method_13_code, 6, some .int)
theorem mi_Q_mostBeginsWith : .code y_Q_mostBeginsWith prog_3_method_13_code 6 (some .int) ∈ wT := wT_m 323 (by decide +kernel) rfl
theorem d_Q_mostBeginsWith_0 : decode prog_3_method_13_code 0 = .ok (.iconst 1, 1) := by decide +kernel
theorem d_Q_mostBeginsWith_1 : decode prog_3_method_13_code 1 = .ok (.aload_n 0, 1) := by decide +kernel
theorem d_Q_mostBeginsWith_2 : decode prog_3_method_13_code 2 = .ok (.getfield 15, 3) := by decide +kernel
theorem d_Q_mostBeginsWith_5 : decode prog_3_method_13_code 5 = .ok (.iload_n 1, 1) := by decide +kernel
theorem d_Q_mostBeginsWith_6 : decode prog_3_method_13_code 6 = .ok (.iaload, 1) := by decide +kernel
theorem d_Q_mostBeginsWith_7 : decode prog_3_method_13_code 7 = .ok (.invokestatic 56, 3) := by decide +kernel
theorem d_Q_mostBeginsWith_10 : decode prog_3_method_13_code 10 = .ok (.istore_n 3, 1) := by decide +kernel
theorem d_Q_mostBeginsWith_11 : decode prog_3_method_13_code 11 = .ok (.iconst 0, 1) := by decide +kernel
theorem d_Q_mostBeginsWith_12 : decode prog_3_method_13_code 12 = .ok (.istore 4, 2) := by decide +kernel
theorem d_Q_mostBeginsWith_14 : decode prog_3_method_13_code 14 = .ok (.iload_n 2, 1) := by decide +kernel
theorem d_Q_mostBeginsWith_15 : decode prog_3_method_13_code 15 = .ok (.istore 5, 2) := by decide +kernel
theorem d_Q_mostBeginsWith_17 : decode prog_3_method_13_code 17 = .ok (.iload 5, 2) := by decide +kernel
theorem d_Q_mostBeginsWith_19 : decode prog_3_method_13_code 19 = .ok (.sipush 420, 3) := by decide +kernel
theorem d_Q_mostBeginsWith_22 : decode prog_3_method_13_code 22 = .ok (.if_icmp .ge 28, 3) := by decide +kernel
theorem d_Q_mostBeginsWith_25 : decode prog_3_method_13_code 25 = .ok (.iload 4, 2) := by decide +kernel
theorem d_Q_mostBeginsWith_27 : decode prog_3_method_13_code 27 = .ok (.aload_n 0, 1) := by decide +kernel
theorem d_Q_mostBeginsWith_28 : decode prog_3_method_13_code 28 = .ok (.getfield 27, 3) := by decide +kernel
theorem d_Q_mostBeginsWith_31 : decode prog_3_method_13_code 31 = .ok (.iload 5, 2) := by decide +kernel
theorem d_Q_mostBeginsWith_33 : decode prog_3_method_13_code 33 = .ok (.iaload, 1) := by decide +kernel
theorem d_Q_mostBeginsWith_34 : decode prog_3_method_13_code 34 = .ok (.iconst 1, 1) := by decide +kernel
theorem d_Q_mostBeginsWith_35 : decode prog_3_method_13_code 35 = .ok (.iadd, 1) := by decide +kernel
theorem d_Q_mostBeginsWith_36 : decode prog_3_method_13_code 36 = .ok (.invokestatic 56, 3) := by decide +kernel
theorem d_Q_mostBeginsWith_39 : decode prog_3_method_13_code 39 = .ok (.istore 4, 2) := by decide +kernel
theorem d_Q_mostBeginsWith_41 : decode prog_3_method_13_code 41 = .ok (.iload 5, 2) := by decide +kernel
theorem d_Q_mostBeginsWith_43 : decode prog_3_method_13_code 43 = .ok (.iload_n 3, 1) := by decide +kernel
theorem d_Q_mostBeginsWith_44 : decode prog_3_method_13_code 44 = .ok (.iadd, 1) := by decide +kernel
theorem d_Q_mostBeginsWith_45 : decode prog_3_method_13_code 45 = .ok (.istore 5, 2) := by decide +kernel
theorem d_Q_mostBeginsWith_47 : decode prog_3_method_13_code 47 = .ok (.goto (-30), 3) := by decide +kernel
theorem d_Q_mostBeginsWith_50 : decode prog_3_method_13_code 50 = .ok (.iload 4, 2) := by decide +kernel
theorem d_Q_mostBeginsWith_52 : decode prog_3_method_13_code 52 = .ok (.ireturn, 1) := by decide +kernel
abbrev y_Q_goOn : MethodName := ⟨"FrameTables$Search", "goOn", "(II)V"⟩
abbrev m_Q_goOn : MethodName × ByteArray × Nat × Option FieldType := (y_Q_goOn, prog_3_method_9_code, 3, none)
theorem mi_Q_goOn : .code y_Q_goOn prog_3_method_9_code 3 none ∈ wT := wT_m 330 (by decide +kernel) rfl
theorem d_Q_goOn_0 : decode prog_3_method_9_code 0 = .ok (.aload_n 0, 1) := by decide +kernel
theorem d_Q_goOn_1 : decode prog_3_method_9_code 1 = .ok (.getfield 34, 3) := by decide +kernel
theorem d_Q_goOn_4 : decode prog_3_method_9_code 4 = .ok (.iconst 1, 1) := by decide +kernel
theorem d_Q_goOn_5 : decode prog_3_method_9_code 5 = .ok (.iadd, 1) := by decide +kernel
theorem d_Q_goOn_6 : decode prog_3_method_9_code 6 = .ok (.aload_n 0, 1) := by decide +kernel
theorem d_Q_goOn_7 : decode prog_3_method_9_code 7 = .ok (.getfield 30, 3) := by decide +kernel
theorem d_Q_goOn_10 : decode prog_3_method_9_code 10 = .ok (.if_icmp .ge 27, 3) := by decide +kernel
theorem d_Q_goOn_13 : decode prog_3_method_9_code 13 = .ok (.aload_n 0, 1) := by decide +kernel
theorem d_Q_goOn_14 : decode prog_3_method_9_code 14 = .ok (.aload_n 0, 1) := by decide +kernel
theorem d_Q_goOn_15 : decode prog_3_method_9_code 15 = .ok (.getfield 34, 3) := by decide +kernel
theorem d_Q_goOn_18 : decode prog_3_method_9_code 18 = .ok (.iload_n 1, 1) := by decide +kernel
theorem d_Q_goOn_19 : decode prog_3_method_9_code 19 = .ok (.iconst 1, 1) := by decide +kernel
theorem d_Q_goOn_20 : decode prog_3_method_9_code 20 = .ok (.invokevirtual 76, 3) := by decide +kernel
theorem d_Q_goOn_23 : decode prog_3_method_9_code 23 = .ok (.aload_n 0, 1) := by decide +kernel
theorem d_Q_goOn_24 : decode prog_3_method_9_code 24 = .ok (.aload_n 0, 1) := by decide +kernel
theorem d_Q_goOn_25 : decode prog_3_method_9_code 25 = .ok (.getfield 34, 3) := by decide +kernel
theorem d_Q_goOn_28 : decode prog_3_method_9_code 28 = .ok (.iconst 1, 1) := by decide +kernel
theorem d_Q_goOn_29 : decode prog_3_method_9_code 29 = .ok (.iadd, 1) := by decide +kernel
theorem d_Q_goOn_30 : decode prog_3_method_9_code 30 = .ok (.iload_n 2, 1) := by decide +kernel
theorem d_Q_goOn_31 : decode prog_3_method_9_code 31 = .ok (.invokevirtual 44, 3) := by decide +kernel
theorem d_Q_goOn_34 : decode prog_3_method_9_code 34 = .ok (.goto 8, 3) := by decide +kernel
theorem d_Q_goOn_37 : decode prog_3_method_9_code 37 = .ok (.aload_n 0, 1) := by decide +kernel
theorem d_Q_goOn_38 : decode prog_3_method_9_code 38 = .ok (.iload_n 2, 1) := by decide +kernel
theorem d_Q_goOn_39 : decode prog_3_method_9_code 39 = .ok (.invokevirtual 87, 3) := by decide +kernel
theorem d_Q_goOn_42 : decode prog_3_method_9_code 42 = .ok (.return_, 1) := by decide +kernel
abbrev y_Q_addBegins : MethodName := ⟨"FrameTables$Search", "addBegins", "(III)V"⟩
abbrev m_Q_addBegins : MethodName × ByteArray × Nat × Option FieldType := (y_Q_addBegins, prog_3_method_14_code, 6, none)
theorem mi_Q_addBegins : .code y_Q_addBegins prog_3_method_14_code 6 none ∈ wT := wT_m 334 (by decide +kernel) rfl
theorem d_Q_addBegins_0 : decode prog_3_method_14_code 0 = .ok (.iconst 1, 1) := by decide +kernel
theorem d_Q_addBegins_1 : decode prog_3_method_14_code 1 = .ok (.aload_n 0, 1) := by decide +kernel
theorem d_Q_addBegins_2 : decode prog_3_method_14_code 2 = .ok (.getfield 15, 3) := by decide +kernel
theorem d_Q_addBegins_5 : decode prog_3_method_14_code 5 = .ok (.iload_n 1, 1) := by decide +kernel
theorem d_Q_addBegins_6 : decode prog_3_method_14_code 6 = .ok (.iaload, 1) := by decide +kernel
theorem d_Q_addBegins_7 : decode prog_3_method_14_code 7 = .ok (.invokestatic 56, 3) := by decide +kernel
theorem d_Q_addBegins_10 : decode prog_3_method_14_code 10 = .ok (.istore 4, 2) := by decide +kernel
theorem d_Q_addBegins_12 : decode prog_3_method_14_code 12 = .ok (.iload_n 2, 1) := by decide +kernel
theorem d_Q_addBegins_13 : decode prog_3_method_14_code 13 = .ok (.istore 5, 2) := by decide +kernel
theorem d_Q_addBegins_15 : decode prog_3_method_14_code 15 = .ok (.iload 5, 2) := by decide +kernel
theorem d_Q_addBegins_17 : decode prog_3_method_14_code 17 = .ok (.sipush 420, 3) := by decide +kernel
theorem d_Q_addBegins_20 : decode prog_3_method_14_code 20 = .ok (.if_icmp .ge 24, 3) := by decide +kernel
theorem d_Q_addBegins_23 : decode prog_3_method_14_code 23 = .ok (.aload_n 0, 1) := by decide +kernel
theorem d_Q_addBegins_24 : decode prog_3_method_14_code 24 = .ok (.getfield 27, 3) := by decide +kernel
theorem d_Q_addBegins_27 : decode prog_3_method_14_code 27 = .ok (.iload 5, 2) := by decide +kernel
theorem d_Q_addBegins_29 : decode prog_3_method_14_code 29 = .ok (.dup2, 1) := by decide +kernel
theorem d_Q_addBegins_30 : decode prog_3_method_14_code 30 = .ok (.iaload, 1) := by decide +kernel
theorem d_Q_addBegins_31 : decode prog_3_method_14_code 31 = .ok (.iload_n 3, 1) := by decide +kernel
theorem d_Q_addBegins_32 : decode prog_3_method_14_code 32 = .ok (.iadd, 1) := by decide +kernel
theorem d_Q_addBegins_33 : decode prog_3_method_14_code 33 = .ok (.iastore, 1) := by decide +kernel
theorem d_Q_addBegins_34 : decode prog_3_method_14_code 34 = .ok (.iload 5, 2) := by decide +kernel
theorem d_Q_addBegins_36 : decode prog_3_method_14_code 36 = .ok (.iload 4, 2) := by decide +kernel
theorem d_Q_addBegins_38 : decode prog_3_method_14_code 38 = .ok (.iadd, 1) := by decide +kernel
theorem d_Q_addBegins_39 : decode prog_3_method_14_code 39 = .ok (.istore 5, 2) := by decide +kernel
theorem d_Q_addBegins_41 : decode prog_3_method_14_code 41 = .ok (.goto (-26), 3) := by decide +kernel
theorem d_Q_addBegins_44 : decode prog_3_method_14_code 44 = .ok (.return_, 1) := by decide +kernel
abbrev y_Q_keepRow : MethodName := ⟨"FrameTables$Search", "keepRow", "(I)V"⟩
abbrev m_Q_keepRow : MethodName × ByteArray × Nat × Option FieldType := (y_Q_keepRow, prog_3_method_10_code, 3, none)
theorem mi_Q_keepRow : .code y_Q_keepRow prog_3_method_10_code 3 none ∈ wT := wT_m 338 (by decide +kernel) rfl
theorem d_Q_keepRow_0 : decode prog_3_method_10_code 0 = .ok (.aload_n 0, 1) := by decide +kernel
theorem d_Q_keepRow_1 : decode prog_3_method_10_code 1 = .ok (.iload_n 1, 1) := by decide +kernel
theorem d_Q_keepRow_2 : decode prog_3_method_10_code 2 = .ok (.putfield 37, 3) := by decide +kernel
theorem d_Q_keepRow_5 : decode prog_3_method_10_code 5 = .ok (.iconst 0, 1) := by decide +kernel
theorem d_Q_keepRow_6 : decode prog_3_method_10_code 6 = .ok (.istore_n 2, 1) := by decide +kernel
theorem d_Q_keepRow_7 : decode prog_3_method_10_code 7 = .ok (.iload_n 2, 1) := by decide +kernel
theorem d_Q_keepRow_8 : decode prog_3_method_10_code 8 = .ok (.aload_n 0, 1) := by decide +kernel
theorem d_Q_keepRow_9 : decode prog_3_method_10_code 9 = .ok (.getfield 30, 3) := by decide +kernel
theorem d_Q_keepRow_12 : decode prog_3_method_10_code 12 = .ok (.if_icmp .ge 23, 3) := by decide +kernel
theorem d_Q_keepRow_15 : decode prog_3_method_10_code 15 = .ok (.aload_n 0, 1) := by decide +kernel
theorem d_Q_keepRow_16 : decode prog_3_method_10_code 16 = .ok (.getfield 24, 3) := by decide +kernel
theorem d_Q_keepRow_19 : decode prog_3_method_10_code 19 = .ok (.iload_n 2, 1) := by decide +kernel
theorem d_Q_keepRow_20 : decode prog_3_method_10_code 20 = .ok (.aload_n 0, 1) := by decide +kernel
theorem d_Q_keepRow_21 : decode prog_3_method_10_code 21 = .ok (.getfield 18, 3) := by decide +kernel
theorem d_Q_keepRow_24 : decode prog_3_method_10_code 24 = .ok (.iload_n 2, 1) := by decide +kernel
theorem d_Q_keepRow_25 : decode prog_3_method_10_code 25 = .ok (.iaload, 1) := by decide +kernel
theorem d_Q_keepRow_26 : decode prog_3_method_10_code 26 = .ok (.iconst 1, 1) := by decide +kernel
theorem d_Q_keepRow_27 : decode prog_3_method_10_code 27 = .ok (.isub, 1) := by decide +kernel
theorem d_Q_keepRow_28 : decode prog_3_method_10_code 28 = .ok (.iastore, 1) := by decide +kernel
theorem d_Q_keepRow_29 : decode prog_3_method_10_code 29 = .ok (.iinc 2 1, 3) := by decide +kernel
theorem d_Q_keepRow_32 : decode prog_3_method_10_code 32 = .ok (.goto (-25), 3) := by decide +kernel
theorem d_Q_keepRow_35 : decode prog_3_method_10_code 35 = .ok (.return_, 1) := by decide +kernel
abbrev y_Q_leaveClosedPlaces : MethodName := ⟨"FrameTables$Search", "leaveClosedPlaces", "()V"⟩
abbrev m_Q_leaveClosedPlaces : MethodName × ByteArray × Nat × Option FieldType := (y_Q_leaveClosedPlaces, prog_3_method_11_code, 1, none)
theorem mi_Q_leaveClosedPlaces : .code y_Q_leaveClosedPlaces prog_3_method_11_code 1 none ∈ wT := wT_m 342 (by decide +kernel) rfl
theorem d_Q_leaveClosedPlaces_0 : decode prog_3_method_11_code 0 = .ok (.aload_n 0, 1) := by decide +kernel
theorem d_Q_leaveClosedPlaces_1 : decode prog_3_method_11_code 1 = .ok (.getfield 34, 3) := by decide +kernel
theorem d_Q_leaveClosedPlaces_4 : decode prog_3_method_11_code 4 = .ok (.ifCond .lt 54, 3) := by decide +kernel
theorem d_Q_leaveClosedPlaces_7 : decode prog_3_method_11_code 7 = .ok (.aload_n 0, 1) := by decide +kernel
theorem d_Q_leaveClosedPlaces_8 : decode prog_3_method_11_code 8 = .ok (.aload_n 0, 1) := by decide +kernel
theorem d_Q_leaveClosedPlaces_9 : decode prog_3_method_11_code 9 = .ok (.getfield 34, 3) := by decide +kernel
theorem d_Q_leaveClosedPlaces_12 : decode prog_3_method_11_code 12 = .ok (.invokevirtual 91, 3) := by decide +kernel
theorem d_Q_leaveClosedPlaces_15 : decode prog_3_method_11_code 15 = .ok (.ifCond .eq 43, 3) := by decide +kernel
theorem d_Q_leaveClosedPlaces_18 : decode prog_3_method_11_code 18 = .ok (.aload_n 0, 1) := by decide +kernel
theorem d_Q_leaveClosedPlaces_19 : decode prog_3_method_11_code 19 = .ok (.dup, 1) := by decide +kernel
theorem d_Q_leaveClosedPlaces_20 : decode prog_3_method_11_code 20 = .ok (.getfield 34, 3) := by decide +kernel
theorem d_Q_leaveClosedPlaces_23 : decode prog_3_method_11_code 23 = .ok (.iconst 1, 1) := by decide +kernel
theorem d_Q_leaveClosedPlaces_24 : decode prog_3_method_11_code 24 = .ok (.isub, 1) := by decide +kernel
theorem d_Q_leaveClosedPlaces_25 : decode prog_3_method_11_code 25 = .ok (.putfield 34, 3) := by decide +kernel
theorem d_Q_leaveClosedPlaces_28 : decode prog_3_method_11_code 28 = .ok (.aload_n 0, 1) := by decide +kernel
theorem d_Q_leaveClosedPlaces_29 : decode prog_3_method_11_code 29 = .ok (.getfield 34, 3) := by decide +kernel
theorem d_Q_leaveClosedPlaces_32 : decode prog_3_method_11_code 32 = .ok (.ifCond .lt (-32), 3) := by decide +kernel
theorem d_Q_leaveClosedPlaces_35 : decode prog_3_method_11_code 35 = .ok (.aload_n 0, 1) := by decide +kernel
theorem d_Q_leaveClosedPlaces_36 : decode prog_3_method_11_code 36 = .ok (.aload_n 0, 1) := by decide +kernel
theorem d_Q_leaveClosedPlaces_37 : decode prog_3_method_11_code 37 = .ok (.getfield 34, 3) := by decide +kernel
theorem d_Q_leaveClosedPlaces_40 : decode prog_3_method_11_code 40 = .ok (.aload_n 0, 1) := by decide +kernel
theorem d_Q_leaveClosedPlaces_41 : decode prog_3_method_11_code 41 = .ok (.getfield 18, 3) := by decide +kernel
theorem d_Q_leaveClosedPlaces_44 : decode prog_3_method_11_code 44 = .ok (.aload_n 0, 1) := by decide +kernel
theorem d_Q_leaveClosedPlaces_45 : decode prog_3_method_11_code 45 = .ok (.getfield 34, 3) := by decide +kernel
theorem d_Q_leaveClosedPlaces_48 : decode prog_3_method_11_code 48 = .ok (.iaload, 1) := by decide +kernel
theorem d_Q_leaveClosedPlaces_49 : decode prog_3_method_11_code 49 = .ok (.iconst 1, 1) := by decide +kernel
theorem d_Q_leaveClosedPlaces_50 : decode prog_3_method_11_code 50 = .ok (.isub, 1) := by decide +kernel
theorem d_Q_leaveClosedPlaces_51 : decode prog_3_method_11_code 51 = .ok (.iconst (-1), 1) := by decide +kernel
theorem d_Q_leaveClosedPlaces_52 : decode prog_3_method_11_code 52 = .ok (.invokevirtual 76, 3) := by decide +kernel
theorem d_Q_leaveClosedPlaces_55 : decode prog_3_method_11_code 55 = .ok (.goto (-55), 3) := by decide +kernel
theorem d_Q_leaveClosedPlaces_58 : decode prog_3_method_11_code 58 = .ok (.return_, 1) := by decide +kernel
abbrev y_Q_isClosed : MethodName := ⟨"FrameTables$Search", "isClosed", "(I)Z"⟩
abbrev m_Q_isClosed : MethodName × ByteArray × Nat × Option FieldType := (y_Q_isClosed, prog_3_method_12_code, 2, some .boolean)
theorem mi_Q_isClosed : .code y_Q_isClosed prog_3_method_12_code 2 (some .boolean) ∈ wT := wT_m 346 (by decide +kernel) rfl
theorem d_Q_isClosed_0 : decode prog_3_method_12_code 0 = .ok (.aload_n 0, 1) := by decide +kernel
theorem d_Q_isClosed_1 : decode prog_3_method_12_code 1 = .ok (.getfield 18, 3) := by decide +kernel
theorem d_Q_isClosed_4 : decode prog_3_method_12_code 4 = .ok (.iload_n 1, 1) := by decide +kernel
theorem d_Q_isClosed_5 : decode prog_3_method_12_code 5 = .ok (.iaload, 1) := by decide +kernel
theorem d_Q_isClosed_6 : decode prog_3_method_12_code 6 = .ok (.aload_n 0, 1) := by decide +kernel
theorem d_Q_isClosed_7 : decode prog_3_method_12_code 7 = .ok (.getfield 15, 3) := by decide +kernel
theorem d_Q_isClosed_10 : decode prog_3_method_12_code 10 = .ok (.iload_n 1, 1) := by decide +kernel
theorem d_Q_isClosed_11 : decode prog_3_method_12_code 11 = .ok (.iaload, 1) := by decide +kernel
theorem d_Q_isClosed_12 : decode prog_3_method_12_code 12 = .ok (.if_icmp .ge 16, 3) := by decide +kernel
theorem d_Q_isClosed_15 : decode prog_3_method_12_code 15 = .ok (.aload_n 0, 1) := by decide +kernel
theorem d_Q_isClosed_16 : decode prog_3_method_12_code 16 = .ok (.getfield 21, 3) := by decide +kernel
theorem d_Q_isClosed_19 : decode prog_3_method_12_code 19 = .ok (.iload_n 1, 1) := by decide +kernel
theorem d_Q_isClosed_20 : decode prog_3_method_12_code 20 = .ok (.iaload, 1) := by decide +kernel
theorem d_Q_isClosed_21 : decode prog_3_method_12_code 21 = .ok (.aload_n 0, 1) := by decide +kernel
theorem d_Q_isClosed_22 : decode prog_3_method_12_code 22 = .ok (.getfield 37, 3) := by decide +kernel
theorem d_Q_isClosed_25 : decode prog_3_method_12_code 25 = .ok (.if_icmp .lt 7, 3) := by decide +kernel
theorem d_Q_isClosed_28 : decode prog_3_method_12_code 28 = .ok (.iconst 1, 1) := by decide +kernel
theorem d_Q_isClosed_29 : decode prog_3_method_12_code 29 = .ok (.goto 4, 3) := by decide +kernel
theorem d_Q_isClosed_32 : decode prog_3_method_12_code 32 = .ok (.iconst 0, 1) := by decide +kernel
theorem d_Q_isClosed_33 : decode prog_3_method_12_code 33 = .ok (.ireturn, 1) := by decide +kernel
abbrev y_Q_giveBestRowTo : MethodName := ⟨"FrameTables$Search", "giveBestRowTo", "(LFrameTables$Table;)V"⟩
abbrev m_Q_giveBestRowTo : MethodName × ByteArray × Nat × Option FieldType := (y_Q_giveBestRowTo, prog_3_method_5_code, 3, none)
theorem mi_Q_giveBestRowTo : .code y_Q_giveBestRowTo prog_3_method_5_code 3 none ∈ wT := wT_m 350 (by decide +kernel) rfl
theorem d_Q_giveBestRowTo_0 : decode prog_3_method_5_code 0 = .ok (.aload_n 0, 1) := by decide +kernel
theorem d_Q_giveBestRowTo_1 : decode prog_3_method_5_code 1 = .ok (.getfield 37, 3) := by decide +kernel
theorem d_Q_giveBestRowTo_4 : decode prog_3_method_5_code 4 = .ok (.bipush 40, 2) := by decide +kernel
theorem d_Q_giveBestRowTo_6 : decode prog_3_method_5_code 6 = .ok (.if_icmp .le 4, 3) := by decide +kernel
theorem d_Q_giveBestRowTo_9 : decode prog_3_method_5_code 9 = .ok (.return_, 1) := by decide +kernel
theorem d_Q_giveBestRowTo_10 : decode prog_3_method_5_code 10 = .ok (.iconst 0, 1) := by decide +kernel
theorem d_Q_giveBestRowTo_11 : decode prog_3_method_5_code 11 = .ok (.istore_n 2, 1) := by decide +kernel
theorem d_Q_giveBestRowTo_12 : decode prog_3_method_5_code 12 = .ok (.iload_n 2, 1) := by decide +kernel
theorem d_Q_giveBestRowTo_13 : decode prog_3_method_5_code 13 = .ok (.aload_n 0, 1) := by decide +kernel
theorem d_Q_giveBestRowTo_14 : decode prog_3_method_5_code 14 = .ok (.getfield 30, 3) := by decide +kernel
theorem d_Q_giveBestRowTo_17 : decode prog_3_method_5_code 17 = .ok (.if_icmp .ge 25, 3) := by decide +kernel
theorem d_Q_giveBestRowTo_20 : decode prog_3_method_5_code 20 = .ok (.aload_n 1, 1) := by decide +kernel
theorem d_Q_giveBestRowTo_21 : decode prog_3_method_5_code 21 = .ok (.aload_n 0, 1) := by decide +kernel
theorem d_Q_giveBestRowTo_22 : decode prog_3_method_5_code 22 = .ok (.getfield 9, 3) := by decide +kernel
theorem d_Q_giveBestRowTo_25 : decode prog_3_method_5_code 25 = .ok (.iload_n 2, 1) := by decide +kernel
theorem d_Q_giveBestRowTo_26 : decode prog_3_method_5_code 26 = .ok (.iaload, 1) := by decide +kernel
theorem d_Q_giveBestRowTo_27 : decode prog_3_method_5_code 27 = .ok (.aload_n 0, 1) := by decide +kernel
theorem d_Q_giveBestRowTo_28 : decode prog_3_method_5_code 28 = .ok (.getfield 24, 3) := by decide +kernel
theorem d_Q_giveBestRowTo_31 : decode prog_3_method_5_code 31 = .ok (.iload_n 2, 1) := by decide +kernel
theorem d_Q_giveBestRowTo_32 : decode prog_3_method_5_code 32 = .ok (.iaload, 1) := by decide +kernel
theorem d_Q_giveBestRowTo_33 : decode prog_3_method_5_code 33 = .ok (.invokevirtual 67, 3) := by decide +kernel
theorem d_Q_giveBestRowTo_36 : decode prog_3_method_5_code 36 = .ok (.iinc 2 1, 3) := by decide +kernel
theorem d_Q_giveBestRowTo_39 : decode prog_3_method_5_code 39 = .ok (.goto (-27), 3) := by decide +kernel
theorem d_Q_giveBestRowTo_42 : decode prog_3_method_5_code 42 = .ok (.return_, 1) := by decide +kernel
abbrev y_Q_peakOf : MethodName := ⟨"FrameTables$Search", "peakOf", "(LFrameTables$Table;)I"⟩
abbrev m_Q_peakOf : MethodName × ByteArray × Nat × Option FieldType := (y_Q_peakOf, prog_3_method_6_code, 5, some .int)
theorem mi_Q_peakOf : .code y_Q_peakOf prog_3_method_6_code 5 (some .int) ∈ wT := wT_m 358 (by decide +kernel) rfl
theorem d_Q_peakOf_0 : decode prog_3_method_6_code 0 = .ok (.aload_n 0, 1) := by decide +kernel
theorem d_Q_peakOf_1 : decode prog_3_method_6_code 1 = .ok (.aload_n 1, 1) := by decide +kernel
theorem d_Q_peakOf_2 : decode prog_3_method_6_code 2 = .ok (.invokevirtual 40, 3) := by decide +kernel
theorem d_Q_peakOf_5 : decode prog_3_method_6_code 5 = .ok (.iconst 0, 1) := by decide +kernel
theorem d_Q_peakOf_6 : decode prog_3_method_6_code 6 = .ok (.istore_n 2, 1) := by decide +kernel
theorem d_Q_peakOf_7 : decode prog_3_method_6_code 7 = .ok (.iconst 0, 1) := by decide +kernel
theorem d_Q_peakOf_8 : decode prog_3_method_6_code 8 = .ok (.istore_n 3, 1) := by decide +kernel
theorem d_Q_peakOf_9 : decode prog_3_method_6_code 9 = .ok (.iload_n 3, 1) := by decide +kernel
theorem d_Q_peakOf_10 : decode prog_3_method_6_code 10 = .ok (.aload_n 0, 1) := by decide +kernel
theorem d_Q_peakOf_11 : decode prog_3_method_6_code 11 = .ok (.getfield 30, 3) := by decide +kernel
theorem d_Q_peakOf_14 : decode prog_3_method_6_code 14 = .ok (.if_icmp .ge 41, 3) := by decide +kernel
theorem d_Q_peakOf_17 : decode prog_3_method_6_code 17 = .ok (.aload_n 1, 1) := by decide +kernel
theorem d_Q_peakOf_18 : decode prog_3_method_6_code 18 = .ok (.aload_n 0, 1) := by decide +kernel
theorem d_Q_peakOf_19 : decode prog_3_method_6_code 19 = .ok (.getfield 9, 3) := by decide +kernel
theorem d_Q_peakOf_22 : decode prog_3_method_6_code 22 = .ok (.iload_n 3, 1) := by decide +kernel
theorem d_Q_peakOf_23 : decode prog_3_method_6_code 23 = .ok (.iaload, 1) := by decide +kernel
theorem d_Q_peakOf_24 : decode prog_3_method_6_code 24 = .ok (.invokevirtual 72, 3) := by decide +kernel
theorem d_Q_peakOf_27 : decode prog_3_method_6_code 27 = .ok (.istore 4, 2) := by decide +kernel
theorem d_Q_peakOf_29 : decode prog_3_method_6_code 29 = .ok (.iload_n 2, 1) := by decide +kernel
theorem d_Q_peakOf_30 : decode prog_3_method_6_code 30 = .ok (.aload_n 0, 1) := by decide +kernel
theorem d_Q_peakOf_31 : decode prog_3_method_6_code 31 = .ok (.iload_n 3, 1) := by decide +kernel
theorem d_Q_peakOf_32 : decode prog_3_method_6_code 32 = .ok (.iload 4, 2) := by decide +kernel
theorem d_Q_peakOf_34 : decode prog_3_method_6_code 34 = .ok (.invokevirtual 52, 3) := by decide +kernel
theorem d_Q_peakOf_37 : decode prog_3_method_6_code 37 = .ok (.invokestatic 56, 3) := by decide +kernel
theorem d_Q_peakOf_40 : decode prog_3_method_6_code 40 = .ok (.istore_n 2, 1) := by decide +kernel
theorem d_Q_peakOf_41 : decode prog_3_method_6_code 41 = .ok (.aload_n 0, 1) := by decide +kernel
theorem d_Q_peakOf_42 : decode prog_3_method_6_code 42 = .ok (.iload_n 3, 1) := by decide +kernel
theorem d_Q_peakOf_43 : decode prog_3_method_6_code 43 = .ok (.iload 4, 2) := by decide +kernel
theorem d_Q_peakOf_45 : decode prog_3_method_6_code 45 = .ok (.iconst 1, 1) := by decide +kernel
theorem d_Q_peakOf_46 : decode prog_3_method_6_code 46 = .ok (.invokevirtual 76, 3) := by decide +kernel
theorem d_Q_peakOf_49 : decode prog_3_method_6_code 49 = .ok (.iinc 3 1, 3) := by decide +kernel
theorem d_Q_peakOf_52 : decode prog_3_method_6_code 52 = .ok (.goto (-43), 3) := by decide +kernel
theorem d_Q_peakOf_55 : decode prog_3_method_6_code 55 = .ok (.iload_n 2, 1) := by decide +kernel
theorem d_Q_peakOf_56 : decode prog_3_method_6_code 56 = .ok (.ireturn, 1) := by decide +kernel
end
section
theorem ac_int : .arrayClass (newarray.typeOf .int) ∈ wT := wT_m 89 (by decide +kernel) rfl
theorem ac_char : .arrayClass (newarray.typeOf .char) ∈ wT := wT_m 119 (by decide +kernel) rfl
theorem clOk_0 : clOk 0 "FrameTables" fT0 7 t0_ := by
  have h : ∀ w ∈ u_ws "FrameTables" fT0 7, w ∈ lw_tbl ∧ goodWord w = true := by decide +kernel
  exact ⟨rfl, fun w hw => List.mem_filter.mpr (h w hw), by decide +kernel, by decide +kernel⟩
theorem clOk_1 : clOk 1 "FrameTables$Table" fT1 7 t1_ := by
  have h : ∀ w ∈ u_ws "FrameTables$Table" fT1 7, w ∈ lw_tbl ∧ goodWord w = true := by decide +kernel
  exact ⟨rfl, fun w hw => List.mem_filter.mpr (h w hw), by decide +kernel, by decide +kernel⟩
theorem clOk_2 : clOk 2 "FrameTables$Spans" fT2 2 t2_ := by
  have h : ∀ w ∈ u_ws "FrameTables$Spans" fT2 2, w ∈ lw_tbl ∧ goodWord w = true := by decide +kernel
  exact ⟨rfl, fun w hw => List.mem_filter.mpr (h w hw), by decide +kernel, by decide +kernel⟩
theorem clOk_3 : clOk 3 "FrameTables$Text" fT3 3 t3_ := by
  have h : ∀ w ∈ u_ws "FrameTables$Text" fT3 3, w ∈ lw_tbl ∧ goodWord w = true := by decide +kernel
  exact ⟨rfl, fun w hw => List.mem_filter.mpr (h w hw), by decide +kernel, by decide +kernel⟩
theorem clOk_4 : clOk 4 "FrameTables$Parser" fT4 4 t4_ := by
  have h : ∀ w ∈ u_ws "FrameTables$Parser" fT4 4, w ∈ lw_tbl ∧ goodWord w = true := by decide +kernel
  exact ⟨rfl, fun w hw => List.mem_filter.mpr (h w hw), by decide +kernel, by decide +kernel⟩
theorem clOk_5 : clOk 5 "FrameTables$Search" fT5 9 t5_ := by
  have h : ∀ w ∈ u_ws "FrameTables$Search" fT5 9, w ∈ lw_tbl ∧ goodWord w = true := by decide +kernel
  exact ⟨rfl, fun w hw => List.mem_filter.mpr (h w hw), by decide +kernel, by decide +kernel⟩
theorem fl_T_9 : .fieldLink "FrameTables$Table" 9 "FrameTables$Table" (fT1 0).2.1 (fT1 0).2.2.1 ∈ wT := wT_m 67 (by decide +kernel) rfl
theorem fl_T_15 : .fieldLink "FrameTables$Table" 15 "FrameTables$Table" (fT1 1).2.1 (fT1 1).2.2.1 ∈ wT := wT_m 68 (by decide +kernel) rfl
theorem fl_T_18 : .fieldLink "FrameTables$Table" 18 "FrameTables$Table" (fT1 2).2.1 (fT1 2).2.2.1 ∈ wT := wT_m 69 (by decide +kernel) rfl
theorem fl_T_21 : .fieldLink "FrameTables$Table" 21 "FrameTables$Table" (fT1 3).2.1 (fT1 3).2.2.1 ∈ wT := wT_m 70 (by decide +kernel) rfl
theorem fl_T_24 : .fieldLink "FrameTables$Table" 24 "FrameTables$Table" (fT1 4).2.1 (fT1 4).2.2.1 ∈ wT := wT_m 71 (by decide +kernel) rfl
theorem fl_T_27 : .fieldLink "FrameTables$Table" 27 "FrameTables$Table" (fT1 5).2.1 (fT1 5).2.2.1 ∈ wT := wT_m 72 (by decide +kernel) rfl
theorem fl_T_30 : .fieldLink "FrameTables$Table" 30 "FrameTables$Table" (fT1 6).2.1 (fT1 6).2.2.1 ∈ wT := wT_m 73 (by decide +kernel) rfl
theorem fl_S_9 : .fieldLink "FrameTables$Spans" 9 "FrameTables$Spans" (fT2 0).2.1 (fT2 0).2.2.1 ∈ wT := wT_m 96 (by decide +kernel) rfl
theorem fl_S_15 : .fieldLink "FrameTables$Spans" 15 "FrameTables$Spans" (fT2 1).2.1 (fT2 1).2.2.1 ∈ wT := wT_m 97 (by decide +kernel) rfl
theorem fl_X_9 : .fieldLink "FrameTables$Text" 9 "FrameTables$Text" (fT3 0).2.1 (fT3 0).2.2.1 ∈ wT := wT_m 109 (by decide +kernel) rfl
theorem fl_X_15 : .fieldLink "FrameTables$Text" 15 "FrameTables$Text" (fT3 1).2.1 (fT3 1).2.2.1 ∈ wT := wT_m 110 (by decide +kernel) rfl
theorem fl_X_19 : .fieldLink "FrameTables$Text" 19 "FrameTables$Text" (fT3 2).2.1 (fT3 2).2.2.1 ∈ wT := wT_m 111 (by decide +kernel) rfl
theorem fl_P_21 : .fieldLink "FrameTables$Parser" 21 "FrameTables$Parser" (fT4 0).2.1 (fT4 0).2.2.1 ∈ wT := wT_m 126 (by decide +kernel) rfl
theorem fl_P_9 : .fieldLink "FrameTables$Parser" 9 "FrameTables$Parser" (fT4 1).2.1 (fT4 1).2.2.1 ∈ wT := wT_m 127 (by decide +kernel) rfl
theorem fl_P_15 : .fieldLink "FrameTables$Parser" 15 "FrameTables$Parser" (fT4 2).2.1 (fT4 2).2.2.1 ∈ wT := wT_m 128 (by decide +kernel) rfl
theorem fl_P_18 : .fieldLink "FrameTables$Parser" 18 "FrameTables$Parser" (fT4 3).2.1 (fT4 3).2.2.1 ∈ wT := wT_m 129 (by decide +kernel) rfl
theorem fl_Q_9 : .fieldLink "FrameTables$Search" 9 "FrameTables$Search" (fT5 0).2.1 (fT5 0).2.2.1 ∈ wT := wT_m 145 (by decide +kernel) rfl
theorem fl_Q_15 : .fieldLink "FrameTables$Search" 15 "FrameTables$Search" (fT5 1).2.1 (fT5 1).2.2.1 ∈ wT := wT_m 146 (by decide +kernel) rfl
theorem fl_Q_18 : .fieldLink "FrameTables$Search" 18 "FrameTables$Search" (fT5 2).2.1 (fT5 2).2.2.1 ∈ wT := wT_m 147 (by decide +kernel) rfl
theorem fl_Q_21 : .fieldLink "FrameTables$Search" 21 "FrameTables$Search" (fT5 3).2.1 (fT5 3).2.2.1 ∈ wT := wT_m 148 (by decide +kernel) rfl
theorem fl_Q_24 : .fieldLink "FrameTables$Search" 24 "FrameTables$Search" (fT5 4).2.1 (fT5 4).2.2.1 ∈ wT := wT_m 149 (by decide +kernel) rfl
theorem fl_Q_27 : .fieldLink "FrameTables$Search" 27 "FrameTables$Search" (fT5 5).2.1 (fT5 5).2.2.1 ∈ wT := wT_m 150 (by decide +kernel) rfl
theorem fl_Q_30 : .fieldLink "FrameTables$Search" 30 "FrameTables$Search" (fT5 6).2.1 (fT5 6).2.2.1 ∈ wT := wT_m 151 (by decide +kernel) rfl
theorem fl_Q_34 : .fieldLink "FrameTables$Search" 34 "FrameTables$Search" (fT5 7).2.1 (fT5 7).2.2.1 ∈ wT := wT_m 152 (by decide +kernel) rfl
theorem fl_Q_37 : .fieldLink "FrameTables$Search" 37 "FrameTables$Search" (fT5 8).2.1 (fT5 8).2.2.1 ∈ wT := wT_m 153 (by decide +kernel) rfl
theorem fl_F_10 : .fieldLink "FrameTables" 10 "FrameTables" (fT0 0).2.1 (fT0 0).2.2.1 ∈ wT := wT_m 173 (by decide +kernel) rfl
theorem fl_F_16 : .fieldLink "FrameTables" 16 "FrameTables" (fT0 1).2.1 (fT0 1).2.2.1 ∈ wT := wT_m 174 (by decide +kernel) rfl
theorem fl_F_22 : .fieldLink "FrameTables" 22 "FrameTables" (fT0 2).2.1 (fT0 2).2.2.1 ∈ wT := wT_m 175 (by decide +kernel) rfl
theorem fl_F_29 : .fieldLink "FrameTables" 29 "FrameTables" (fT0 3).2.1 (fT0 3).2.2.1 ∈ wT := wT_m 176 (by decide +kernel) rfl
theorem fl_F_38 : .fieldLink "FrameTables" 38 "FrameTables" (fT0 4).2.1 (fT0 4).2.2.1 ∈ wT := wT_m 177 (by decide +kernel) rfl
theorem fl_F_45 : .fieldLink "FrameTables" 45 "FrameTables" (fT0 5).2.1 (fT0 5).2.2.1 ∈ wT := wT_m 178 (by decide +kernel) rfl
theorem fl_F_49 : .fieldLink "FrameTables" 49 "FrameTables" (fT0 6).2.1 (fT0 6).2.2.1 ∈ wT := wT_m 179 (by decide +kernel) rfl
theorem fk_K_38 : .fieldLink "java/lang/String" 38 "java/lang/String" "COMPACT_STRINGS" "Z" ∈ wT := wT_m 447 (by decide +kernel) rfl
theorem fk_K_1053 : .fieldLink "java/lang/String" 1053 "jdk/internal/util/Preconditions" "SIOOBE_FORMATTER" "Ljava/util/function/BiFunction;" ∈ wT := wT_m 463 (by decide +kernel) rfl
theorem fk_K_9 : .fieldLink "java/lang/String" 9 "java/lang/String" "value" "[B" ∈ wT := wT_m 781 (by decide +kernel) rfl
theorem fk_K_15 : .fieldLink "java/lang/String" 15 "java/lang/String" "coder" "B" ∈ wT := wT_m 782 (by decide +kernel) rfl
theorem oi_F : .methodLink "FrameTables" 1 Lib.objectInit ∈ wT ∧ .instanceMethod Lib.objectInit ∈ wT ∧ .code Lib.objectInit ⟨#[0xb1]⟩ 1 none ∈ wT := ⟨wT_m 58 (by decide +kernel) rfl, wT_m 59 (by decide +kernel) rfl, wT_m 60 (by decide +kernel) rfl⟩
theorem oi_T : .methodLink "FrameTables$Table" 3 Lib.objectInit ∈ wT ∧ .instanceMethod Lib.objectInit ∈ wT ∧ .code Lib.objectInit ⟨#[0xb1]⟩ 1 none ∈ wT := ⟨wT_m 66 (by decide +kernel) rfl, wT_m 59 (by decide +kernel) rfl, wT_m 60 (by decide +kernel) rfl⟩
theorem ci_S_init : .instanceMethod y_S_init ∈ wT := (wT_m 93 (by decide +kernel) rfl)
theorem in_S : .initialized "FrameTables$Spans" ∈ wT := (wT_m 43 (by decide +kernel) rfl)
theorem ok_S_init : okc m_S_init 0 := ⟨by decide +kernel, by decide +kernel, by decide +kernel⟩
theorem cw_F_21 : cwi "FrameTables" 21 m_S_init 0 := ⟨wT_m 92 (by decide +kernel) rfl, ci_S_init, in_S, mi_S_init, rfl, ok_S_init⟩
theorem oi_S : .methodLink "FrameTables$Spans" 3 Lib.objectInit ∈ wT ∧ .instanceMethod Lib.objectInit ∈ wT ∧ .code Lib.objectInit ⟨#[0xb1]⟩ 1 none ∈ wT := ⟨wT_m 95 (by decide +kernel) rfl, wT_m 59 (by decide +kernel) rfl, wT_m 60 (by decide +kernel) rfl⟩
theorem oi_X : .methodLink "FrameTables$Text" 3 Lib.objectInit ∈ wT ∧ .instanceMethod Lib.objectInit ∈ wT ∧ .code Lib.objectInit ⟨#[0xb1]⟩ 1 none ∈ wT := ⟨wT_m 108 (by decide +kernel) rfl, wT_m 59 (by decide +kernel) rfl, wT_m 60 (by decide +kernel) rfl⟩
theorem ci_P_init : .instanceMethod y_P_init ∈ wT := (wT_m 123 (by decide +kernel) rfl)
theorem in_P : .initialized "FrameTables$Parser" ∈ wT := (wT_m 45 (by decide +kernel) rfl)
theorem ok_P_init : okc m_P_init 1 := ⟨by decide +kernel, by decide +kernel, by decide +kernel⟩
theorem cw_F_35 : cwi "FrameTables" 35 m_P_init 1 := ⟨wT_m 122 (by decide +kernel) rfl, ci_P_init, in_P, mi_P_init, rfl, ok_P_init⟩
theorem oi_P : .methodLink "FrameTables$Parser" 3 Lib.objectInit ∈ wT ∧ .instanceMethod Lib.objectInit ∈ wT ∧ .code Lib.objectInit ⟨#[0xb1]⟩ 1 none ∈ wT := ⟨wT_m 125 (by decide +kernel) rfl, wT_m 59 (by decide +kernel) rfl, wT_m 60 (by decide +kernel) rfl⟩
theorem oi_Q : .methodLink "FrameTables$Search" 3 Lib.objectInit ∈ wT ∧ .instanceMethod Lib.objectInit ∈ wT ∧ .code Lib.objectInit ⟨#[0xb1]⟩ 1 none ∈ wT := ⟨wT_m 144 (by decide +kernel) rfl, wT_m 59 (by decide +kernel) rfl, wT_m 60 (by decide +kernel) rfl⟩
theorem cs_F_isNode : .static y_F_isNode ∈ wT := (wT_m 200 (by decide +kernel) rfl)
theorem in_F : .initialized "FrameTables" ∈ wT := (wT_m 41 (by decide +kernel) rfl)
theorem ok_F_isNode : okc m_F_isNode 1 := ⟨by decide +kernel, by decide +kernel, by decide +kernel⟩
theorem cw_F_53 : cws "FrameTables" 53 m_F_isNode 1 := ⟨wT_m 199 (by decide +kernel) rfl, cs_F_isNode, in_F, mi_F_isNode, ok_F_isNode⟩
theorem cs_F_isPeriod : .static y_F_isPeriod ∈ wT := (wT_m 203 (by decide +kernel) rfl)
theorem ok_F_isPeriod : okc m_F_isPeriod 1 := ⟨by decide +kernel, by decide +kernel, by decide +kernel⟩
theorem cw_F_57 : cws "FrameTables" 57 m_F_isPeriod 1 := ⟨wT_m 202 (by decide +kernel) rfl, cs_F_isPeriod, in_F, mi_F_isPeriod, ok_F_isPeriod⟩
theorem cs_F_isRank : .static y_F_isRank ∈ wT := (wT_m 206 (by decide +kernel) rfl)
theorem ok_F_isRank : okc m_F_isRank 1 := ⟨by decide +kernel, by decide +kernel, by decide +kernel⟩
theorem cw_F_60 : cws "FrameTables" 60 m_F_isRank 1 := ⟨wT_m 205 (by decide +kernel) rfl, cs_F_isRank, in_F, mi_F_isRank, ok_F_isRank⟩
theorem ci_T_isFull : .instanceMethod y_T_isFull ∈ wT := (wT_m 209 (by decide +kernel) rfl)
theorem ce_T_isFull : .selects "FrameTables$Table" y_T_isFull y_T_isFull ∈ wT := (wT_m 210 (by decide +kernel) rfl)
theorem in_T : .initialized "FrameTables$Table" ∈ wT := (wT_m 42 (by decide +kernel) rfl)
theorem ok_T_isFull : okc m_T_isFull 0 := ⟨by decide +kernel, by decide +kernel, by decide +kernel⟩
theorem cw_F_63 : cwv "FrameTables" 63 m_T_isFull 0 := ⟨wT_m 208 (by decide +kernel) rfl, ci_T_isFull, ce_T_isFull, in_T, mi_T_isFull, ok_T_isFull⟩
theorem ci_T_append : .instanceMethod y_T_append ∈ wT := (wT_m 213 (by decide +kernel) rfl)
theorem ce_T_append : .selects "FrameTables$Table" y_T_append y_T_append ∈ wT := (wT_m 214 (by decide +kernel) rfl)
theorem ok_T_append : okc m_T_append 4 := ⟨by decide +kernel, by decide +kernel, by decide +kernel⟩
theorem cw_F_67 : cwv "FrameTables" 67 m_T_append 4 := ⟨wT_m 212 (by decide +kernel) rfl, ci_T_append, ce_T_append, in_T, mi_T_append, ok_T_append⟩
theorem cw_T_34 : cwv "FrameTables$Table" 34 m_T_isFull 0 := ⟨wT_m 216 (by decide +kernel) rfl, ci_T_isFull, ce_T_isFull, in_T, mi_T_isFull, ok_T_isFull⟩
theorem ci_T_setTimeout : .instanceMethod y_T_setTimeout ∈ wT := (wT_m 218 (by decide +kernel) rfl)
theorem ce_T_setTimeout : .selects "FrameTables$Table" y_T_setTimeout y_T_setTimeout ∈ wT := (wT_m 219 (by decide +kernel) rfl)
theorem ok_T_setTimeout : okc m_T_setTimeout 3 := ⟨by decide +kernel, by decide +kernel, by decide +kernel⟩
theorem cw_T_38 : cwv "FrameTables$Table" 38 m_T_setTimeout 3 := ⟨wT_m 217 (by decide +kernel) rfl, ci_T_setTimeout, ce_T_setTimeout, in_T, mi_T_setTimeout, ok_T_setTimeout⟩
theorem ci_T_has : .instanceMethod y_T_has ∈ wT := (wT_m 226 (by decide +kernel) rfl)
theorem ce_T_has : .selects "FrameTables$Table" y_T_has y_T_has ∈ wT := (wT_m 227 (by decide +kernel) rfl)
theorem ok_T_has : okc m_T_has 1 := ⟨by decide +kernel, by decide +kernel, by decide +kernel⟩
theorem cw_F_71 : cwv "FrameTables" 71 m_T_has 1 := ⟨wT_m 225 (by decide +kernel) rfl, ci_T_has, ce_T_has, in_T, mi_T_has, ok_T_has⟩
theorem ci_T_senderOf : .instanceMethod y_T_senderOf ∈ wT := (wT_m 230 (by decide +kernel) rfl)
theorem ce_T_senderOf : .selects "FrameTables$Table" y_T_senderOf y_T_senderOf ∈ wT := (wT_m 231 (by decide +kernel) rfl)
theorem ok_T_senderOf : okc m_T_senderOf 1 := ⟨by decide +kernel, by decide +kernel, by decide +kernel⟩
theorem cw_F_74 : cwv "FrameTables" 74 m_T_senderOf 1 := ⟨wT_m 229 (by decide +kernel) rfl, ci_T_senderOf, ce_T_senderOf, in_T, mi_T_senderOf, ok_T_senderOf⟩
theorem cw_F_78 : cwv "FrameTables" 78 m_T_setTimeout 3 := ⟨wT_m 233 (by decide +kernel) rfl, ci_T_setTimeout, ce_T_setTimeout, in_T, mi_T_setTimeout, ok_T_setTimeout⟩
theorem ci_T_readersOf : .instanceMethod y_T_readersOf ∈ wT := (wT_m 235 (by decide +kernel) rfl)
theorem ce_T_readersOf : .selects "FrameTables$Table" y_T_readersOf y_T_readersOf ∈ wT := (wT_m 236 (by decide +kernel) rfl)
theorem ok_T_readersOf : okc m_T_readersOf 1 := ⟨by decide +kernel, by decide +kernel, by decide +kernel⟩
theorem cw_F_82 : cwv "FrameTables" 82 m_T_readersOf 1 := ⟨wT_m 234 (by decide +kernel) rfl, ci_T_readersOf, ce_T_readersOf, in_T, mi_T_readersOf, ok_T_readersOf⟩
theorem ci_T_reads : .instanceMethod y_T_reads ∈ wT := (wT_m 239 (by decide +kernel) rfl)
theorem ce_T_reads : .selects "FrameTables$Table" y_T_reads y_T_reads ∈ wT := (wT_m 240 (by decide +kernel) rfl)
theorem ok_T_reads : okc m_T_reads 2 := ⟨by decide +kernel, by decide +kernel, by decide +kernel⟩
theorem cw_T_46 : cwv "FrameTables$Table" 46 m_T_reads 2 := ⟨wT_m 238 (by decide +kernel) rfl, ci_T_reads, ce_T_reads, in_T, mi_T_reads, ok_T_reads⟩
theorem ci_T_timeoutOf : .instanceMethod y_T_timeoutOf ∈ wT := (wT_m 243 (by decide +kernel) rfl)
theorem ce_T_timeoutOf : .selects "FrameTables$Table" y_T_timeoutOf y_T_timeoutOf ∈ wT := (wT_m 244 (by decide +kernel) rfl)
theorem ok_T_timeoutOf : okc m_T_timeoutOf 2 := ⟨by decide +kernel, by decide +kernel, by decide +kernel⟩
theorem cw_T_42 : cwv "FrameTables$Table" 42 m_T_timeoutOf 2 := ⟨wT_m 242 (by decide +kernel) rfl, ci_T_timeoutOf, ce_T_timeoutOf, in_T, mi_T_timeoutOf, ok_T_timeoutOf⟩
theorem ci_F_identifierOf : .instanceMethod y_F_identifierOf ∈ wT := (wT_m 252 (by decide +kernel) rfl)
theorem ce_F_identifierOf : .selects "FrameTables" y_F_identifierOf y_F_identifierOf ∈ wT := wT_m 0 (by decide +kernel) rfl
theorem ok_F_identifierOf : okc m_F_identifierOf 1 := ⟨by decide +kernel, by decide +kernel, by decide +kernel⟩
theorem cw_F_85 : cwv "FrameTables" 85 m_F_identifierOf 1 := ⟨wT_m 250 (by decide +kernel) rfl, ci_F_identifierOf, ce_F_identifierOf, in_F, mi_F_identifierOf, ok_F_identifierOf⟩
theorem ci_T_kindOf : .instanceMethod y_T_kindOf ∈ wT := (wT_m 255 (by decide +kernel) rfl)
theorem ce_T_kindOf : .selects "FrameTables$Table" y_T_kindOf y_T_kindOf ∈ wT := (wT_m 256 (by decide +kernel) rfl)
theorem ok_T_kindOf : okc m_T_kindOf 1 := ⟨by decide +kernel, by decide +kernel, by decide +kernel⟩
theorem cw_F_161 : cwv "FrameTables" 161 m_T_kindOf 1 := ⟨wT_m 254 (by decide +kernel) rfl, ci_T_kindOf, ce_T_kindOf, in_T, mi_T_kindOf, ok_T_kindOf⟩
theorem ci_T_placeInKind : .instanceMethod y_T_placeInKind ∈ wT := (wT_m 259 (by decide +kernel) rfl)
theorem ce_T_placeInKind : .selects "FrameTables$Table" y_T_placeInKind y_T_placeInKind ∈ wT := (wT_m 260 (by decide +kernel) rfl)
theorem ok_T_placeInKind : okc m_T_placeInKind 1 := ⟨by decide +kernel, by decide +kernel, by decide +kernel⟩
theorem cw_F_164 : cwv "FrameTables" 164 m_T_placeInKind 1 := ⟨wT_m 258 (by decide +kernel) rfl, ci_T_placeInKind, ce_T_placeInKind, in_T, mi_T_placeInKind, ok_T_placeInKind⟩
theorem cw_T_50 : cwv "FrameTables$Table" 50 m_T_kindOf 1 := ⟨wT_m 262 (by decide +kernel) rfl, ci_T_kindOf, ce_T_kindOf, in_T, mi_T_kindOf, ok_T_kindOf⟩
theorem ci_T_comesBefore : .instanceMethod y_T_comesBefore ∈ wT := (wT_m 265 (by decide +kernel) rfl)
theorem ce_T_comesBefore : .selects "FrameTables$Table" y_T_comesBefore y_T_comesBefore ∈ wT := wT_m 1 (by decide +kernel) rfl
theorem ok_T_comesBefore : okc m_T_comesBefore 2 := ⟨by decide +kernel, by decide +kernel, by decide +kernel⟩
theorem cw_T_54 : cwv "FrameTables$Table" 54 m_T_comesBefore 2 := ⟨wT_m 263 (by decide +kernel) rfl, ci_T_comesBefore, ce_T_comesBefore, in_T, mi_T_comesBefore, ok_T_comesBefore⟩
theorem ci_S_identifierAt : .instanceMethod y_S_identifierAt ∈ wT := (wT_m 268 (by decide +kernel) rfl)
theorem ce_S_identifierAt : .selects "FrameTables$Spans" y_S_identifierAt y_S_identifierAt ∈ wT := (wT_m 269 (by decide +kernel) rfl)
theorem ok_S_identifierAt : okc m_S_identifierAt 2 := ⟨by decide +kernel, by decide +kernel, by decide +kernel⟩
theorem cw_F_167 : cwv "FrameTables" 167 m_S_identifierAt 2 := ⟨wT_m 267 (by decide +kernel) rfl, ci_S_identifierAt, ce_S_identifierAt, in_S, mi_S_identifierAt, ok_S_identifierAt⟩
theorem cs_F_isIdentifier : .static y_F_isIdentifier ∈ wT := (wT_m 276 (by decide +kernel) rfl)
theorem ok_F_isIdentifier : okc m_F_isIdentifier 1 := ⟨by decide +kernel, by decide +kernel, by decide +kernel⟩
theorem cw_F_88 : cws "FrameTables" 88 m_F_isIdentifier 1 := ⟨wT_m 275 (by decide +kernel) rfl, cs_F_isIdentifier, in_F, mi_F_isIdentifier, ok_F_isIdentifier⟩
theorem ci_S_meetAnother : .instanceMethod y_S_meetAnother ∈ wT := (wT_m 279 (by decide +kernel) rfl)
theorem ce_S_meetAnother : .selects "FrameTables$Spans" y_S_meetAnother y_S_meetAnother ∈ wT := (wT_m 280 (by decide +kernel) rfl)
theorem ok_S_meetAnother : okc m_S_meetAnother 3 := ⟨by decide +kernel, by decide +kernel, by decide +kernel⟩
theorem cw_F_91 : cwv "FrameTables" 91 m_S_meetAnother 3 := ⟨wT_m 278 (by decide +kernel) rfl, ci_S_meetAnother, ce_S_meetAnother, in_S, mi_S_meetAnother, ok_S_meetAnother⟩
theorem ci_S_set : .instanceMethod y_S_set ∈ wT := (wT_m 283 (by decide +kernel) rfl)
theorem ce_S_set : .selects "FrameTables$Spans" y_S_set y_S_set ∈ wT := (wT_m 284 (by decide +kernel) rfl)
theorem ok_S_set : okc m_S_set 3 := ⟨by decide +kernel, by decide +kernel, by decide +kernel⟩
theorem cw_F_95 : cwv "FrameTables" 95 m_S_set 3 := ⟨wT_m 282 (by decide +kernel) rfl, ci_S_set, ce_S_set, in_S, mi_S_set, ok_S_set⟩
theorem ci_Q_begin : .instanceMethod y_Q_begin ∈ wT := (wT_m 292 (by decide +kernel) rfl)
theorem ce_Q_begin : .selects "FrameTables$Search" y_Q_begin y_Q_begin ∈ wT := (wT_m 293 (by decide +kernel) rfl)
theorem in_Q : .initialized "FrameTables$Search" ∈ wT := (wT_m 46 (by decide +kernel) rfl)
theorem ok_Q_begin : okc m_Q_begin 1 := ⟨by decide +kernel, by decide +kernel, by decide +kernel⟩
theorem cw_F_100 : cwv "FrameTables" 100 m_Q_begin 1 := ⟨wT_m 291 (by decide +kernel) rfl, ci_Q_begin, ce_Q_begin, in_Q, mi_Q_begin, ok_Q_begin⟩
theorem ci_Q_lay : .instanceMethod y_Q_lay ∈ wT := (wT_m 297 (by decide +kernel) rfl)
theorem ce_Q_lay : .selects "FrameTables$Search" y_Q_lay y_Q_lay ∈ wT := wT_m 2 (by decide +kernel) rfl
theorem ok_Q_lay : okc m_Q_lay 1 := ⟨by decide +kernel, by decide +kernel, by decide +kernel⟩
theorem cw_Q_40 : cwv "FrameTables$Search" 40 m_Q_lay 1 := ⟨wT_m 295 (by decide +kernel) rfl, ci_Q_lay, ce_Q_lay, in_Q, mi_Q_lay, ok_Q_lay⟩
theorem ci_T_size : .instanceMethod y_T_size ∈ wT := (wT_m 300 (by decide +kernel) rfl)
theorem ce_T_size : .selects "FrameTables$Table" y_T_size y_T_size ∈ wT := (wT_m 301 (by decide +kernel) rfl)
theorem ok_T_size : okc m_T_size 0 := ⟨by decide +kernel, by decide +kernel, by decide +kernel⟩
theorem cw_Q_80 : cwv "FrameTables$Search" 80 m_T_size 0 := ⟨wT_m 299 (by decide +kernel) rfl, ci_T_size, ce_T_size, in_T, mi_T_size, ok_T_size⟩
theorem ci_T_periodOf : .instanceMethod y_T_periodOf ∈ wT := (wT_m 304 (by decide +kernel) rfl)
theorem ce_T_periodOf : .selects "FrameTables$Table" y_T_periodOf y_T_periodOf ∈ wT := (wT_m 305 (by decide +kernel) rfl)
theorem ok_T_periodOf : okc m_T_periodOf 1 := ⟨by decide +kernel, by decide +kernel, by decide +kernel⟩
theorem cw_Q_84 : cwv "FrameTables$Search" 84 m_T_periodOf 1 := ⟨wT_m 303 (by decide +kernel) rfl, ci_T_periodOf, ce_T_periodOf, in_T, mi_T_periodOf, ok_T_periodOf⟩
theorem ci_Q_enter : .instanceMethod y_Q_enter ∈ wT := (wT_m 309 (by decide +kernel) rfl)
theorem ce_Q_enter : .selects "FrameTables$Search" y_Q_enter y_Q_enter ∈ wT := wT_m 3 (by decide +kernel) rfl
theorem ok_Q_enter : okc m_Q_enter 2 := ⟨by decide +kernel, by decide +kernel, by decide +kernel⟩
theorem cw_Q_44 : cwv "FrameTables$Search" 44 m_Q_enter 2 := ⟨wT_m 307 (by decide +kernel) rfl, ci_Q_enter, ce_Q_enter, in_Q, mi_Q_enter, ok_Q_enter⟩
theorem ci_Q_isOver : .instanceMethod y_Q_isOver ∈ wT := (wT_m 312 (by decide +kernel) rfl)
theorem ce_Q_isOver : .selects "FrameTables$Search" y_Q_isOver y_Q_isOver ∈ wT := (wT_m 313 (by decide +kernel) rfl)
theorem ok_Q_isOver : okc m_Q_isOver 0 := ⟨by decide +kernel, by decide +kernel, by decide +kernel⟩
theorem cw_F_104 : cwv "FrameTables" 104 m_Q_isOver 0 := ⟨wT_m 311 (by decide +kernel) rfl, ci_Q_isOver, ce_Q_isOver, in_Q, mi_Q_isOver, ok_Q_isOver⟩
theorem ci_Q_step : .instanceMethod y_Q_step ∈ wT := (wT_m 316 (by decide +kernel) rfl)
theorem ce_Q_step : .selects "FrameTables$Search" y_Q_step y_Q_step ∈ wT := (wT_m 317 (by decide +kernel) rfl)
theorem ok_Q_step : okc m_Q_step 0 := ⟨by decide +kernel, by decide +kernel, by decide +kernel⟩
theorem cw_F_107 : cwv "FrameTables" 107 m_Q_step 0 := ⟨wT_m 315 (by decide +kernel) rfl, ci_Q_step, ce_Q_step, in_Q, mi_Q_step, ok_Q_step⟩
theorem cw_Q_48 : cwv "FrameTables$Search" 48 m_Q_isOver 0 := ⟨wT_m 319 (by decide +kernel) rfl, ci_Q_isOver, ce_Q_isOver, in_Q, mi_Q_isOver, ok_Q_isOver⟩
theorem ci_Q_mostBeginsWith : .instanceMethod y_Q_mostBeginsWith ∈ wT := (wT_m 322 (by decide +kernel) rfl)
theorem ce_Q_mostBeginsWith : .selects "FrameTables$Search" y_Q_mostBeginsWith y_Q_mostBeginsWith ∈ wT := wT_m 4 (by decide +kernel) rfl
theorem ok_Q_mostBeginsWith : okc m_Q_mostBeginsWith 2 := ⟨by decide +kernel, by decide +kernel, by decide +kernel⟩
theorem cw_Q_52 : cwv "FrameTables$Search" 52 m_Q_mostBeginsWith 2 := ⟨wT_m 320 (by decide +kernel) rfl, ci_Q_mostBeginsWith, ce_Q_mostBeginsWith, in_Q, mi_Q_mostBeginsWith, ok_Q_mostBeginsWith⟩
theorem mm_Q : .methodLink "FrameTables$Search" 56 Lib.Math.max.name ∈ wT ∧ .static Lib.Math.max.name ∈ wT ∧ .initialized "java/lang/Math" ∈ wT ∧ .code Lib.Math.max.name Lib.Math.max.code 2 (some .int) ∈ wT := ⟨wT_m 324 (by decide +kernel) rfl, wT_m 325 (by decide +kernel) rfl, wT_m 48 (by decide +kernel) rfl, wT_m 326 (by decide +kernel) rfl⟩
theorem ci_Q_goOn : .instanceMethod y_Q_goOn ∈ wT := (wT_m 329 (by decide +kernel) rfl)
theorem ce_Q_goOn : .selects "FrameTables$Search" y_Q_goOn y_Q_goOn ∈ wT := wT_m 5 (by decide +kernel) rfl
theorem ok_Q_goOn : okc m_Q_goOn 2 := ⟨by decide +kernel, by decide +kernel, by decide +kernel⟩
theorem cw_Q_61 : cwv "FrameTables$Search" 61 m_Q_goOn 2 := ⟨wT_m 327 (by decide +kernel) rfl, ci_Q_goOn, ce_Q_goOn, in_Q, mi_Q_goOn, ok_Q_goOn⟩
theorem ci_Q_addBegins : .instanceMethod y_Q_addBegins ∈ wT := (wT_m 333 (by decide +kernel) rfl)
theorem ce_Q_addBegins : .selects "FrameTables$Search" y_Q_addBegins y_Q_addBegins ∈ wT := wT_m 6 (by decide +kernel) rfl
theorem ok_Q_addBegins : okc m_Q_addBegins 3 := ⟨by decide +kernel, by decide +kernel, by decide +kernel⟩
theorem cw_Q_76 : cwv "FrameTables$Search" 76 m_Q_addBegins 3 := ⟨wT_m 331 (by decide +kernel) rfl, ci_Q_addBegins, ce_Q_addBegins, in_Q, mi_Q_addBegins, ok_Q_addBegins⟩
theorem ci_Q_keepRow : .instanceMethod y_Q_keepRow ∈ wT := (wT_m 337 (by decide +kernel) rfl)
theorem ce_Q_keepRow : .selects "FrameTables$Search" y_Q_keepRow y_Q_keepRow ∈ wT := wT_m 7 (by decide +kernel) rfl
theorem ok_Q_keepRow : okc m_Q_keepRow 1 := ⟨by decide +kernel, by decide +kernel, by decide +kernel⟩
theorem cw_Q_87 : cwv "FrameTables$Search" 87 m_Q_keepRow 1 := ⟨wT_m 335 (by decide +kernel) rfl, ci_Q_keepRow, ce_Q_keepRow, in_Q, mi_Q_keepRow, ok_Q_keepRow⟩
theorem ci_Q_leaveClosedPlaces : .instanceMethod y_Q_leaveClosedPlaces ∈ wT := (wT_m 341 (by decide +kernel) rfl)
theorem ce_Q_leaveClosedPlaces : .selects "FrameTables$Search" y_Q_leaveClosedPlaces y_Q_leaveClosedPlaces ∈ wT := wT_m 8 (by decide +kernel) rfl
theorem ok_Q_leaveClosedPlaces : okc m_Q_leaveClosedPlaces 0 := ⟨by decide +kernel, by decide +kernel, by decide +kernel⟩
theorem cw_Q_64 : cwv "FrameTables$Search" 64 m_Q_leaveClosedPlaces 0 := ⟨wT_m 339 (by decide +kernel) rfl, ci_Q_leaveClosedPlaces, ce_Q_leaveClosedPlaces, in_Q, mi_Q_leaveClosedPlaces, ok_Q_leaveClosedPlaces⟩
theorem ci_Q_isClosed : .instanceMethod y_Q_isClosed ∈ wT := (wT_m 345 (by decide +kernel) rfl)
theorem ce_Q_isClosed : .selects "FrameTables$Search" y_Q_isClosed y_Q_isClosed ∈ wT := wT_m 9 (by decide +kernel) rfl
theorem ok_Q_isClosed : okc m_Q_isClosed 1 := ⟨by decide +kernel, by decide +kernel, by decide +kernel⟩
theorem cw_Q_91 : cwv "FrameTables$Search" 91 m_Q_isClosed 1 := ⟨wT_m 343 (by decide +kernel) rfl, ci_Q_isClosed, ce_Q_isClosed, in_Q, mi_Q_isClosed, ok_Q_isClosed⟩
theorem ci_Q_giveBestRowTo : .instanceMethod y_Q_giveBestRowTo ∈ wT := (wT_m 348 (by decide +kernel) rfl)
theorem ce_Q_giveBestRowTo : .selects "FrameTables$Search" y_Q_giveBestRowTo y_Q_giveBestRowTo ∈ wT := (wT_m 349 (by decide +kernel) rfl)
theorem ok_Q_giveBestRowTo : okc m_Q_giveBestRowTo 1 := ⟨by decide +kernel, by decide +kernel, by decide +kernel⟩
theorem cw_F_110 : cwv "FrameTables" 110 m_Q_giveBestRowTo 1 := ⟨wT_m 347 (by decide +kernel) rfl, ci_Q_giveBestRowTo, ce_Q_giveBestRowTo, in_Q, mi_Q_giveBestRowTo, ok_Q_giveBestRowTo⟩
theorem ci_T_setOffset : .instanceMethod y_T_setOffset ∈ wT := (wT_m 352 (by decide +kernel) rfl)
theorem ce_T_setOffset : .selects "FrameTables$Table" y_T_setOffset y_T_setOffset ∈ wT := (wT_m 353 (by decide +kernel) rfl)
theorem ok_T_setOffset : okc m_T_setOffset 2 := ⟨by decide +kernel, by decide +kernel, by decide +kernel⟩
theorem cw_Q_67 : cwv "FrameTables$Search" 67 m_T_setOffset 2 := ⟨wT_m 351 (by decide +kernel) rfl, ci_T_setOffset, ce_T_setOffset, in_T, mi_T_setOffset, ok_T_setOffset⟩
theorem ci_Q_peakOf : .instanceMethod y_Q_peakOf ∈ wT := (wT_m 356 (by decide +kernel) rfl)
theorem ce_Q_peakOf : .selects "FrameTables$Search" y_Q_peakOf y_Q_peakOf ∈ wT := (wT_m 357 (by decide +kernel) rfl)
theorem ok_Q_peakOf : okc m_Q_peakOf 1 := ⟨by decide +kernel, by decide +kernel, by decide +kernel⟩
theorem cw_F_113 : cwv "FrameTables" 113 m_Q_peakOf 1 := ⟨wT_m 355 (by decide +kernel) rfl, ci_Q_peakOf, ce_Q_peakOf, in_Q, mi_Q_peakOf, ok_Q_peakOf⟩
theorem ci_T_offsetOf : .instanceMethod y_T_offsetOf ∈ wT := (wT_m 360 (by decide +kernel) rfl)
theorem ce_T_offsetOf : .selects "FrameTables$Table" y_T_offsetOf y_T_offsetOf ∈ wT := (wT_m 361 (by decide +kernel) rfl)
theorem ok_T_offsetOf : okc m_T_offsetOf 1 := ⟨by decide +kernel, by decide +kernel, by decide +kernel⟩
theorem cw_Q_72 : cwv "FrameTables$Search" 72 m_T_offsetOf 1 := ⟨wT_m 359 (by decide +kernel) rfl, ci_T_offsetOf, ce_T_offsetOf, in_T, mi_T_offsetOf, ok_T_offsetOf⟩
theorem cw_F_117 : cwv "FrameTables" 117 m_T_offsetOf 1 := ⟨wT_m 367 (by decide +kernel) rfl, ci_T_offsetOf, ce_T_offsetOf, in_T, mi_T_offsetOf, ok_T_offsetOf⟩
theorem cw_F_120 : cwv "FrameTables" 120 m_T_periodOf 1 := ⟨wT_m 376 (by decide +kernel) rfl, ci_T_periodOf, ce_T_periodOf, in_T, mi_T_periodOf, ok_T_periodOf⟩
theorem ci_T_setGap : .instanceMethod y_T_setGap ∈ wT := (wT_m 378 (by decide +kernel) rfl)
theorem ce_T_setGap : .selects "FrameTables$Table" y_T_setGap y_T_setGap ∈ wT := (wT_m 379 (by decide +kernel) rfl)
theorem ok_T_setGap : okc m_T_setGap 2 := ⟨by decide +kernel, by decide +kernel, by decide +kernel⟩
theorem cw_F_123 : cwv "FrameTables" 123 m_T_setGap 2 := ⟨wT_m 377 (by decide +kernel) rfl, ci_T_setGap, ce_T_setGap, in_T, mi_T_setGap, ok_T_setGap⟩
theorem cw_F_127 : cwv "FrameTables" 127 m_T_size 0 := ⟨wT_m 385 (by decide +kernel) rfl, ci_T_size, ce_T_size, in_T, mi_T_size, ok_T_size⟩
theorem ci_F_breaks : .instanceMethod y_F_breaks ∈ wT := (wT_m 388 (by decide +kernel) rfl)
theorem ce_F_breaks : .selects "FrameTables" y_F_breaks y_F_breaks ∈ wT := wT_m 10 (by decide +kernel) rfl
theorem ok_F_breaks : okc m_F_breaks 2 := ⟨by decide +kernel, by decide +kernel, by decide +kernel⟩
theorem cw_F_131 : cwv "FrameTables" 131 m_F_breaks 2 := ⟨wT_m 386 (by decide +kernel) rfl, ci_F_breaks, ce_F_breaks, in_F, mi_F_breaks, ok_F_breaks⟩
theorem ci_T_hasShortTimeout : .instanceMethod y_T_hasShortTimeout ∈ wT := (wT_m 391 (by decide +kernel) rfl)
theorem ce_T_hasShortTimeout : .selects "FrameTables$Table" y_T_hasShortTimeout y_T_hasShortTimeout ∈ wT := (wT_m 392 (by decide +kernel) rfl)
theorem ok_T_hasShortTimeout : okc m_T_hasShortTimeout 1 := ⟨by decide +kernel, by decide +kernel, by decide +kernel⟩
theorem cw_F_171 : cwv "FrameTables" 171 m_T_hasShortTimeout 1 := ⟨wT_m 390 (by decide +kernel) rfl, ci_T_hasShortTimeout, ce_T_hasShortTimeout, in_T, mi_T_hasShortTimeout, ok_T_hasShortTimeout⟩
theorem ci_T_repeatsAnEarlierOne : .instanceMethod y_T_repeatsAnEarlierOne ∈ wT := (wT_m 395 (by decide +kernel) rfl)
theorem ce_T_repeatsAnEarlierOne : .selects "FrameTables$Table" y_T_repeatsAnEarlierOne y_T_repeatsAnEarlierOne ∈ wT := (wT_m 396 (by decide +kernel) rfl)
theorem ok_T_repeatsAnEarlierOne : okc m_T_repeatsAnEarlierOne 1 := ⟨by decide +kernel, by decide +kernel, by decide +kernel⟩
theorem cw_F_174 : cwv "FrameTables" 174 m_T_repeatsAnEarlierOne 1 := ⟨wT_m 394 (by decide +kernel) rfl, ci_T_repeatsAnEarlierOne, ce_T_repeatsAnEarlierOne, in_T, mi_T_repeatsAnEarlierOne, ok_T_repeatsAnEarlierOne⟩
theorem ci_X_add : .instanceMethod y_X_add ∈ wT := (wT_m 403 (by decide +kernel) rfl)
theorem ce_X_add : .selects "FrameTables$Text" y_X_add y_X_add ∈ wT := (wT_m 404 (by decide +kernel) rfl)
theorem in_X : .initialized "FrameTables$Text" ∈ wT := (wT_m 44 (by decide +kernel) rfl)
theorem ok_X_add : okc m_X_add 1 := ⟨by decide +kernel, by decide +kernel, by decide +kernel⟩
theorem cw_F_135 : cwv "FrameTables" 135 m_X_add 1 := ⟨wT_m 402 (by decide +kernel) rfl, ci_X_add, ce_X_add, in_X, mi_X_add, ok_X_add⟩
theorem ci_P_fill : .instanceMethod y_P_fill ∈ wT := (wT_m 411 (by decide +kernel) rfl)
theorem ce_P_fill : .selects "FrameTables$Parser" y_P_fill y_P_fill ∈ wT := (wT_m 412 (by decide +kernel) rfl)
theorem ok_P_fill : okc m_P_fill 1 := ⟨by decide +kernel, by decide +kernel, by decide +kernel⟩
theorem cw_F_139 : cwv "FrameTables" 139 m_P_fill 1 := ⟨wT_m 410 (by decide +kernel) rfl, ci_P_fill, ce_P_fill, in_P, mi_P_fill, ok_P_fill⟩
theorem ci_T_clear : .instanceMethod y_T_clear ∈ wT := (wT_m 415 (by decide +kernel) rfl)
theorem ce_T_clear : .selects "FrameTables$Table" y_T_clear y_T_clear ∈ wT := (wT_m 416 (by decide +kernel) rfl)
theorem ok_T_clear : okc m_T_clear 0 := ⟨by decide +kernel, by decide +kernel, by decide +kernel⟩
theorem cw_P_25 : cwv "FrameTables$Parser" 25 m_T_clear 0 := ⟨wT_m 414 (by decide +kernel) rfl, ci_T_clear, ce_T_clear, in_T, mi_T_clear, ok_T_clear⟩
theorem ci_X_length : .instanceMethod y_X_length ∈ wT := (wT_m 419 (by decide +kernel) rfl)
theorem ce_X_length : .selects "FrameTables$Text" y_X_length y_X_length ∈ wT := (wT_m 420 (by decide +kernel) rfl)
theorem ok_X_length : okc m_X_length 0 := ⟨by decide +kernel, by decide +kernel, by decide +kernel⟩
theorem cw_P_30 : cwv "FrameTables$Parser" 30 m_X_length 0 := ⟨wT_m 418 (by decide +kernel) rfl, ci_X_length, ce_X_length, in_X, mi_X_length, ok_X_length⟩
theorem ci_X_signAt : .instanceMethod y_X_signAt ∈ wT := (wT_m 423 (by decide +kernel) rfl)
theorem ce_X_signAt : .selects "FrameTables$Text" y_X_signAt y_X_signAt ∈ wT := (wT_m 424 (by decide +kernel) rfl)
theorem ok_X_signAt : okc m_X_signAt 1 := ⟨by decide +kernel, by decide +kernel, by decide +kernel⟩
theorem cw_P_36 : cwv "FrameTables$Parser" 36 m_X_signAt 1 := ⟨wT_m 422 (by decide +kernel) rfl, ci_X_signAt, ce_X_signAt, in_X, mi_X_signAt, ok_X_signAt⟩
theorem ci_P_takeLine : .instanceMethod y_P_takeLine ∈ wT := (wT_m 428 (by decide +kernel) rfl)
theorem ce_P_takeLine : .selects "FrameTables$Parser" y_P_takeLine y_P_takeLine ∈ wT := wT_m 11 (by decide +kernel) rfl
theorem ok_P_takeLine : okc m_P_takeLine 3 := ⟨by decide +kernel, by decide +kernel, by decide +kernel⟩
theorem cw_P_40 : cwv "FrameTables$Parser" 40 m_P_takeLine 3 := ⟨wT_m 426 (by decide +kernel) rfl, ci_P_takeLine, ce_P_takeLine, in_P, mi_P_takeLine, ok_P_takeLine⟩
theorem ci_P_nextWord : .instanceMethod y_P_nextWord ∈ wT := (wT_m 432 (by decide +kernel) rfl)
theorem ce_P_nextWord : .selects "FrameTables$Parser" y_P_nextWord y_P_nextWord ∈ wT := wT_m 12 (by decide +kernel) rfl
theorem ok_P_nextWord : okc m_P_nextWord 0 := ⟨by decide +kernel, by decide +kernel, by decide +kernel⟩
theorem cw_P_44 : cwv "FrameTables$Parser" 44 m_P_nextWord 0 := ⟨wT_m 430 (by decide +kernel) rfl, ci_P_nextWord, ce_P_nextWord, in_P, mi_P_nextWord, ok_P_nextWord⟩
theorem ci_P_wordIs : .instanceMethod y_P_wordIs ∈ wT := (wT_m 437 (by decide +kernel) rfl)
theorem ce_P_wordIs : .selects "FrameTables$Parser" y_P_wordIs y_P_wordIs ∈ wT := wT_m 13 (by decide +kernel) rfl
theorem ok_P_wordIs : okc m_P_wordIs 1 := ⟨by decide +kernel, by decide +kernel, by decide +kernel⟩
theorem cw_P_50 : cwv "FrameTables$Parser" 50 m_P_wordIs 1 := ⟨wT_m 435 (by decide +kernel) rfl, ci_P_wordIs, ce_P_wordIs, in_P, mi_P_wordIs, ok_P_wordIs⟩
theorem ci_K_length : .instanceMethod y_K_length ∈ wT := (wT_m 440 (by decide +kernel) rfl)
theorem ce_K_length : .selects "java/lang/String" y_K_length y_K_length ∈ wT := (wT_m 441 (by decide +kernel) rfl)
theorem in_K : .initialized "java/lang/String" ∈ wT := (wT_m 49 (by decide +kernel) rfl)
theorem ok_K_length : okc m_K_length 0 := ⟨by decide +kernel, by decide +kernel, by decide +kernel⟩
theorem cw_P_97 : cwv "FrameTables$Parser" 97 m_K_length 0 := ⟨wT_m 439 (by decide +kernel) rfl, ci_K_length, ce_K_length, in_K, mi_K_length, ok_K_length⟩
theorem ci_K_coder : .instanceMethod y_K_coder ∈ wT := (wT_m 444 (by decide +kernel) rfl)
theorem ce_K_coder : .selects "java/lang/String" y_K_coder y_K_coder ∈ wT := (wT_m 445 (by decide +kernel) rfl)
theorem ok_K_coder : okc m_K_coder 0 := ⟨by decide +kernel, by decide +kernel, by decide +kernel⟩
theorem cw_K_335 : cwv "java/lang/String" 335 m_K_coder 0 := ⟨wT_m 443 (by decide +kernel) rfl, ci_K_coder, ce_K_coder, in_K, mi_K_coder, ok_K_coder⟩
theorem ci_K_charAt : .instanceMethod y_K_charAt ∈ wT := (wT_m 450 (by decide +kernel) rfl)
theorem ce_K_charAt : .selects "java/lang/String" y_K_charAt y_K_charAt ∈ wT := (wT_m 451 (by decide +kernel) rfl)
theorem ok_K_charAt : okc m_K_charAt 1 := ⟨by decide +kernel, by decide +kernel, by decide +kernel⟩
theorem cw_P_100 : cwv "FrameTables$Parser" 100 m_K_charAt 1 := ⟨wT_m 449 (by decide +kernel) rfl, ci_K_charAt, ce_K_charAt, in_K, mi_K_charAt, ok_K_charAt⟩
theorem ci_K_isLatin1 : .instanceMethod y_K_isLatin1 ∈ wT := (wT_m 454 (by decide +kernel) rfl)
theorem ce_K_isLatin1 : .selects "java/lang/String" y_K_isLatin1 y_K_isLatin1 ∈ wT := (wT_m 455 (by decide +kernel) rfl)
theorem ok_K_isLatin1 : okc m_K_isLatin1 0 := ⟨by decide +kernel, by decide +kernel, by decide +kernel⟩
theorem cw_K_492 : cwv "java/lang/String" 492 m_K_isLatin1 0 := ⟨wT_m 453 (by decide +kernel) rfl, ci_K_isLatin1, ce_K_isLatin1, in_K, mi_K_isLatin1, ok_K_isLatin1⟩
theorem cs_L_charAt : .static y_L_charAt ∈ wT := (wT_m 458 (by decide +kernel) rfl)
theorem in_L : .initialized "java/lang/StringLatin1" ∈ wT := (wT_m 50 (by decide +kernel) rfl)
theorem ok_L_charAt : okc m_L_charAt 2 := ⟨by decide +kernel, by decide +kernel, by decide +kernel⟩
theorem cw_K_495 : cws "java/lang/String" 495 m_L_charAt 2 := ⟨wT_m 457 (by decide +kernel) rfl, cs_L_charAt, in_L, mi_L_charAt, ok_L_charAt⟩
theorem cs_K_checkIndex : .static y_K_checkIndex ∈ wT := (wT_m 461 (by decide +kernel) rfl)
theorem ok_K_checkIndex : okc m_K_checkIndex 2 := ⟨by decide +kernel, by decide +kernel, by decide +kernel⟩
theorem cw_L_9 : cws "java/lang/StringLatin1" 9 m_K_checkIndex 2 := ⟨wT_m 460 (by decide +kernel) rfl, cs_K_checkIndex, in_K, mi_K_checkIndex, ok_K_checkIndex⟩
theorem cs_J_checkIndex : .static y_J_checkIndex ∈ wT := (wT_m 466 (by decide +kernel) rfl)
theorem in_J : .initialized "jdk/internal/util/Preconditions" ∈ wT := (wT_m 51 (by decide +kernel) rfl)
theorem ok_J_checkIndex : okc m_J_checkIndex 3 := ⟨by decide +kernel, by decide +kernel, by decide +kernel⟩
theorem cw_K_1059 : cws "java/lang/String" 1059 m_J_checkIndex 3 := ⟨wT_m 465 (by decide +kernel) rfl, cs_J_checkIndex, in_J, mi_J_checkIndex, ok_J_checkIndex⟩
theorem ci_P_takeFrame : .instanceMethod y_P_takeFrame ∈ wT := (wT_m 489 (by decide +kernel) rfl)
theorem ce_P_takeFrame : .selects "FrameTables$Parser" y_P_takeFrame y_P_takeFrame ∈ wT := wT_m 14 (by decide +kernel) rfl
theorem ok_P_takeFrame : okc m_P_takeFrame 1 := ⟨by decide +kernel, by decide +kernel, by decide +kernel⟩
theorem cw_P_54 : cwv "FrameTables$Parser" 54 m_P_takeFrame 1 := ⟨wT_m 487 (by decide +kernel) rfl, ci_P_takeFrame, ce_P_takeFrame, in_P, mi_P_takeFrame, ok_P_takeFrame⟩
theorem ci_P_nextNumber : .instanceMethod y_P_nextNumber ∈ wT := (wT_m 493 (by decide +kernel) rfl)
theorem ce_P_nextNumber : .selects "FrameTables$Parser" y_P_nextNumber y_P_nextNumber ∈ wT := wT_m 15 (by decide +kernel) rfl
theorem ok_P_nextNumber : okc m_P_nextNumber 0 := ⟨by decide +kernel, by decide +kernel, by decide +kernel⟩
theorem cw_P_61 : cwv "FrameTables$Parser" 61 m_P_nextNumber 0 := ⟨wT_m 491 (by decide +kernel) rfl, ci_P_nextNumber, ce_P_nextNumber, in_P, mi_P_nextNumber, ok_P_nextNumber⟩
theorem cw_P_74 : cwv "FrameTables$Parser" 74 m_T_isFull 0 := ⟨wT_m 498 (by decide +kernel) rfl, ci_T_isFull, ce_T_isFull, in_T, mi_T_isFull, ok_T_isFull⟩
theorem cw_P_77 : cwv "FrameTables$Parser" 77 m_T_append 4 := ⟨wT_m 499 (by decide +kernel) rfl, ci_T_append, ce_T_append, in_T, mi_T_append, ok_T_append⟩
theorem ci_P_takeReaders : .instanceMethod y_P_takeReaders ∈ wT := (wT_m 502 (by decide +kernel) rfl)
theorem ce_P_takeReaders : .selects "FrameTables$Parser" y_P_takeReaders y_P_takeReaders ∈ wT := wT_m 16 (by decide +kernel) rfl
theorem ok_P_takeReaders : okc m_P_takeReaders 1 := ⟨by decide +kernel, by decide +kernel, by decide +kernel⟩
theorem cw_P_58 : cwv "FrameTables$Parser" 58 m_P_takeReaders 1 := ⟨wT_m 500 (by decide +kernel) rfl, ci_P_takeReaders, ce_P_takeReaders, in_P, mi_P_takeReaders, ok_P_takeReaders⟩
theorem ci_P_mayRead : .instanceMethod y_P_mayRead ∈ wT := (wT_m 507 (by decide +kernel) rfl)
theorem ce_P_mayRead : .selects "FrameTables$Parser" y_P_mayRead y_P_mayRead ∈ wT := wT_m 17 (by decide +kernel) rfl
theorem ok_P_mayRead : okc m_P_mayRead 3 := ⟨by decide +kernel, by decide +kernel, by decide +kernel⟩
theorem cw_P_83 : cwv "FrameTables$Parser" 83 m_P_mayRead 3 := ⟨wT_m 505 (by decide +kernel) rfl, ci_P_mayRead, ce_P_mayRead, in_P, mi_P_mayRead, ok_P_mayRead⟩
theorem cw_P_87 : cwv "FrameTables$Parser" 87 m_T_size 0 := ⟨wT_m 509 (by decide +kernel) rfl, ci_T_size, ce_T_size, in_T, mi_T_size, ok_T_size⟩
theorem cw_P_94 : cwv "FrameTables$Parser" 94 m_T_senderOf 1 := ⟨wT_m 510 (by decide +kernel) rfl, ci_T_senderOf, ce_T_senderOf, in_T, mi_T_senderOf, ok_T_senderOf⟩
theorem cw_P_90 : cwv "FrameTables$Parser" 90 m_T_setTimeout 3 := ⟨wT_m 511 (by decide +kernel) rfl, ci_T_setTimeout, ce_T_setTimeout, in_T, mi_T_setTimeout, ok_T_setTimeout⟩
theorem ci_X_clear : .instanceMethod y_X_clear ∈ wT := (wT_m 513 (by decide +kernel) rfl)
theorem ce_X_clear : .selects "FrameTables$Text" y_X_clear y_X_clear ∈ wT := (wT_m 514 (by decide +kernel) rfl)
theorem ok_X_clear : okc m_X_clear 0 := ⟨by decide +kernel, by decide +kernel, by decide +kernel⟩
theorem cw_F_142 : cwv "FrameTables" 142 m_X_clear 0 := ⟨wT_m 512 (by decide +kernel) rfl, ci_X_clear, ce_X_clear, in_X, mi_X_clear, ok_X_clear⟩
theorem ci_F_writeLine : .instanceMethod y_F_writeLine ∈ wT := (wT_m 523 (by decide +kernel) rfl)
theorem ce_F_writeLine : .selects "FrameTables" y_F_writeLine y_F_writeLine ∈ wT := wT_m 18 (by decide +kernel) rfl
theorem ok_F_writeLine : okc m_F_writeLine 1 := ⟨by decide +kernel, by decide +kernel, by decide +kernel⟩
theorem cw_F_145 : cwv "FrameTables" 145 m_F_writeLine 1 := ⟨wT_m 521 (by decide +kernel) rfl, ci_F_writeLine, ce_F_writeLine, in_F, mi_F_writeLine, ok_F_writeLine⟩
theorem ci_X_addWord : .instanceMethod y_X_addWord ∈ wT := (wT_m 527 (by decide +kernel) rfl)
theorem ce_X_addWord : .selects "FrameTables$Text" y_X_addWord y_X_addWord ∈ wT := (wT_m 528 (by decide +kernel) rfl)
theorem ok_X_addWord : okc m_X_addWord 1 := ⟨by decide +kernel, by decide +kernel, by decide +kernel⟩
theorem cw_F_179 : cwv "FrameTables" 179 m_X_addWord 1 := ⟨wT_m 526 (by decide +kernel) rfl, ci_X_addWord, ce_X_addWord, in_X, mi_X_addWord, ok_X_addWord⟩
theorem cw_X_23 : cwv "FrameTables$Text" 23 m_K_length 0 := ⟨wT_m 530 (by decide +kernel) rfl, ci_K_length, ce_K_length, in_K, mi_K_length, ok_K_length⟩
theorem cw_X_28 : cwv "FrameTables$Text" 28 m_K_charAt 1 := ⟨wT_m 531 (by decide +kernel) rfl, ci_K_charAt, ce_K_charAt, in_K, mi_K_charAt, ok_K_charAt⟩
theorem cw_X_32 : cwv "FrameTables$Text" 32 m_X_add 1 := ⟨wT_m 532 (by decide +kernel) rfl, ci_X_add, ce_X_add, in_X, mi_X_add, ok_X_add⟩
theorem ci_X_addNumber : .instanceMethod y_X_addNumber ∈ wT := (wT_m 534 (by decide +kernel) rfl)
theorem ce_X_addNumber : .selects "FrameTables$Text" y_X_addNumber y_X_addNumber ∈ wT := (wT_m 535 (by decide +kernel) rfl)
theorem ok_X_addNumber : okc m_X_addNumber 1 := ⟨by decide +kernel, by decide +kernel, by decide +kernel⟩
theorem cw_F_183 : cwv "FrameTables" 183 m_X_addNumber 1 := ⟨wT_m 533 (by decide +kernel) rfl, ci_X_addNumber, ce_X_addNumber, in_X, mi_X_addNumber, ok_X_addNumber⟩
theorem ci_T_rankOf : .instanceMethod y_T_rankOf ∈ wT := (wT_m 538 (by decide +kernel) rfl)
theorem ce_T_rankOf : .selects "FrameTables$Table" y_T_rankOf y_T_rankOf ∈ wT := (wT_m 539 (by decide +kernel) rfl)
theorem ok_T_rankOf : okc m_T_rankOf 1 := ⟨by decide +kernel, by decide +kernel, by decide +kernel⟩
theorem cw_F_186 : cwv "FrameTables" 186 m_T_rankOf 1 := ⟨wT_m 537 (by decide +kernel) rfl, ci_T_rankOf, ce_T_rankOf, in_T, mi_T_rankOf, ok_T_rankOf⟩
theorem ci_T_gapOf : .instanceMethod y_T_gapOf ∈ wT := (wT_m 542 (by decide +kernel) rfl)
theorem ce_T_gapOf : .selects "FrameTables$Table" y_T_gapOf y_T_gapOf ∈ wT := (wT_m 543 (by decide +kernel) rfl)
theorem ok_T_gapOf : okc m_T_gapOf 1 := ⟨by decide +kernel, by decide +kernel, by decide +kernel⟩
theorem cw_F_189 : cwv "FrameTables" 189 m_T_gapOf 1 := ⟨wT_m 541 (by decide +kernel) rfl, ci_T_gapOf, ce_T_gapOf, in_T, mi_T_gapOf, ok_T_gapOf⟩
theorem cw_F_192 : cwv "FrameTables" 192 m_T_reads 2 := ⟨wT_m 545 (by decide +kernel) rfl, ci_T_reads, ce_T_reads, in_T, mi_T_reads, ok_T_reads⟩
theorem cw_F_196 : cwv "FrameTables" 196 m_T_timeoutOf 2 := ⟨wT_m 547 (by decide +kernel) rfl, ci_T_timeoutOf, ce_T_timeoutOf, in_T, mi_T_timeoutOf, ok_T_timeoutOf⟩
theorem ci_X_hasLostSigns : .instanceMethod y_X_hasLostSigns ∈ wT := (wT_m 549 (by decide +kernel) rfl)
theorem ce_X_hasLostSigns : .selects "FrameTables$Text" y_X_hasLostSigns y_X_hasLostSigns ∈ wT := (wT_m 550 (by decide +kernel) rfl)
theorem ok_X_hasLostSigns : okc m_X_hasLostSigns 0 := ⟨by decide +kernel, by decide +kernel, by decide +kernel⟩
theorem cw_F_149 : cwv "FrameTables" 149 m_X_hasLostSigns 0 := ⟨wT_m 548 (by decide +kernel) rfl, ci_X_hasLostSigns, ce_X_hasLostSigns, in_X, mi_X_hasLostSigns, ok_X_hasLostSigns⟩
theorem cw_F_152 : cwv "FrameTables" 152 m_X_length 0 := ⟨wT_m 552 (by decide +kernel) rfl, ci_X_length, ce_X_length, in_X, mi_X_length, ok_X_length⟩
theorem cw_F_155 : cwv "FrameTables" 155 m_X_signAt 1 := ⟨wT_m 557 (by decide +kernel) rfl, ci_X_signAt, ce_X_signAt, in_X, mi_X_signAt, ok_X_signAt⟩
theorem ci_T_touches : .instanceMethod y_T_touches ∈ wT := (wT_m 563 (by decide +kernel) rfl)
theorem ce_T_touches : .selects "FrameTables$Table" y_T_touches y_T_touches ∈ wT := (wT_m 564 (by decide +kernel) rfl)
theorem ok_T_touches : okc m_T_touches 2 := ⟨by decide +kernel, by decide +kernel, by decide +kernel⟩
theorem cw_F_158 : cwv "FrameTables" 158 m_T_touches 2 := ⟨wT_m 562 (by decide +kernel) rfl, ci_T_touches, ce_T_touches, in_T, mi_T_touches, ok_T_touches⟩
theorem ci_T_init : .instanceMethod y_T_init ∈ wT := (wT_m 64 (by decide +kernel) rfl)
theorem ok_T_init : okc m_T_init 0 := ⟨by decide +kernel, by decide +kernel, by decide +kernel⟩
theorem cw_F_9 : cwiN "FrameTables" 9 m_T_init 0 "FrameTables" := ⟨List.mem_of_getElem? (i := 0) rfl, ci_T_init, in_T, mi_T_init, rfl, ok_T_init⟩
theorem ci_X_init : .instanceMethod y_X_init ∈ wT := (wT_m 106 (by decide +kernel) rfl)
theorem ok_X_init : okc m_X_init 0 := ⟨by decide +kernel, by decide +kernel, by decide +kernel⟩
theorem cw_F_28 : cwiN "FrameTables" 28 m_X_init 0 "FrameTables" := ⟨List.mem_of_getElem? (i := 1) rfl, ci_X_init, in_X, mi_X_init, rfl, ok_X_init⟩
theorem ci_Q_init : .instanceMethod y_Q_init ∈ wT := (wT_m 142 (by decide +kernel) rfl)
theorem ok_Q_init : okc m_Q_init 0 := ⟨by decide +kernel, by decide +kernel, by decide +kernel⟩
theorem cw_F_44 : cwiN "FrameTables" 44 m_Q_init 0 "FrameTables" := ⟨List.mem_of_getElem? (i := 2) rfl, ci_Q_init, in_Q, mi_Q_init, rfl, ok_Q_init⟩
theorem cw_P_64 : cwsN "FrameTables$Parser" 64 m_F_isNode 1 "FrameTables" := ⟨List.mem_of_getElem? (i := 3) rfl, cs_F_isNode, in_F, mi_F_isNode, ok_F_isNode⟩
theorem cw_P_68 : cwsN "FrameTables$Parser" 68 m_F_isPeriod 1 "FrameTables" := ⟨List.mem_of_getElem? (i := 4) rfl, cs_F_isPeriod, in_F, mi_F_isPeriod, ok_F_isPeriod⟩
theorem cw_P_71 : cwsN "FrameTables$Parser" 71 m_F_isRank 1 "FrameTables" := ⟨List.mem_of_getElem? (i := 5) rfl, cs_F_isRank, in_F, mi_F_isRank, ok_F_isRank⟩
theorem nw_F_7 : .classLink "FrameTables" 7 "FrameTables$Table" ∈ wT ∧ .instantiable "FrameTables$Table" 7 ∈ wT ∧ .initialized "FrameTables$Table" ∈ wT := ⟨wT_m 61 (by decide +kernel) rfl, wT_m 62 (by decide +kernel) rfl, (wT_m 42 (by decide +kernel) rfl)⟩
theorem nw_F_19 : .classLink "FrameTables" 19 "FrameTables$Spans" ∈ wT ∧ .instantiable "FrameTables$Spans" 2 ∈ wT ∧ .initialized "FrameTables$Spans" ∈ wT := ⟨wT_m 90 (by decide +kernel) rfl, wT_m 91 (by decide +kernel) rfl, (wT_m 43 (by decide +kernel) rfl)⟩
theorem nw_F_26 : .classLink "FrameTables" 26 "FrameTables$Text" ∈ wT ∧ .instantiable "FrameTables$Text" 3 ∈ wT ∧ .initialized "FrameTables$Text" ∈ wT := ⟨wT_m 103 (by decide +kernel) rfl, wT_m 104 (by decide +kernel) rfl, (wT_m 44 (by decide +kernel) rfl)⟩
theorem nw_F_33 : .classLink "FrameTables" 33 "FrameTables$Parser" ∈ wT ∧ .instantiable "FrameTables$Parser" 4 ∈ wT ∧ .initialized "FrameTables$Parser" ∈ wT := ⟨wT_m 120 (by decide +kernel) rfl, wT_m 121 (by decide +kernel) rfl, (wT_m 45 (by decide +kernel) rfl)⟩
theorem nw_F_42 : .classLink "FrameTables" 42 "FrameTables$Search" ∈ wT ∧ .instantiable "FrameTables$Search" 9 ∈ wT ∧ .initialized "FrameTables$Search" ∈ wT := ⟨wT_m 139 (by decide +kernel) rfl, wT_m 140 (by decide +kernel) rfl, (wT_m 46 (by decide +kernel) rfl)⟩
theorem l2_F_98 : .constantLong "FrameTables" 98 (jI 3000) ∈ wT := wT_m 290 (by decide +kernel) rfl
theorem ls_P_48 : ("FrameTables$Parser", 48, "frame", 0) ∈ sRf := List.mem_of_getElem? (i := 0) rfl
theorem ls_P_81 : ("FrameTables$Parser", 81, "reads", 1) ∈ sRf := List.mem_of_getElem? (i := 1) rfl
theorem ls_F_177 : ("FrameTables", 177, "frame", 0) ∈ sRf := List.mem_of_getElem? (i := 2) rfl
theorem ls_F_195 : ("FrameTables", 195, "reads", 1) ∈ sRf := List.mem_of_getElem? (i := 3) rfl
end
