section
-- ===== PART A: goes FIRST, ahead of the names: the tables' words, and 'selects' of the private methods out of them =====
/-- a private method of a class that the tables say can be made, by its rows of tables_1 -/
def lw_okq (q : MethodName × Nat) : Prop := (q.1.cls ≠ "java/lang/invoke/MethodHandle" ∧ q.1.cls ≠ "java/lang/invoke/VarHandle") ∧ Cond.instantiable q.1.cls q.2 ∈ tables_1 ∧ Cond.privateMethod q.1 ∈ tables_1 ∧ Cond.instanceMethod q.1 ∈ tables_1
theorem lw_p0 : lw_okq (⟨"FrameTables", "identifierOf", "(I)I"⟩, 7) := ⟨⟨by decide +kernel, by decide +kernel⟩, List.mem_of_getElem? (i := 14) (by decide +kernel), List.mem_of_getElem? (i := 211) (by decide +kernel), List.mem_of_getElem? (i := 212) (by decide +kernel)⟩
theorem lw_p1 : lw_okq (⟨"FrameTables$Table", "comesBefore", "(II)Z"⟩, 7) := ⟨⟨by decide +kernel, by decide +kernel⟩, List.mem_of_getElem? (i := 22) (by decide +kernel), List.mem_of_getElem? (i := 224) (by decide +kernel), List.mem_of_getElem? (i := 225) (by decide +kernel)⟩
theorem lw_p2 : lw_okq (⟨"FrameTables$Search", "lay", "(LFrameTables$Table;)V"⟩, 9) := ⟨⟨by decide +kernel, by decide +kernel⟩, List.mem_of_getElem? (i := 100) (by decide +kernel), List.mem_of_getElem? (i := 256) (by decide +kernel), List.mem_of_getElem? (i := 257) (by decide +kernel)⟩
theorem lw_p3 : lw_okq (⟨"FrameTables$Search", "enter", "(II)V"⟩, 9) := ⟨⟨by decide +kernel, by decide +kernel⟩, List.mem_of_getElem? (i := 100) (by decide +kernel), List.mem_of_getElem? (i := 268) (by decide +kernel), List.mem_of_getElem? (i := 269) (by decide +kernel)⟩
theorem lw_p4 : lw_okq (⟨"FrameTables$Search", "mostBeginsWith", "(II)I"⟩, 9) := ⟨⟨by decide +kernel, by decide +kernel⟩, List.mem_of_getElem? (i := 100) (by decide +kernel), List.mem_of_getElem? (i := 281) (by decide +kernel), List.mem_of_getElem? (i := 282) (by decide +kernel)⟩
theorem lw_p5 : lw_okq (⟨"FrameTables$Search", "goOn", "(II)V"⟩, 9) := ⟨⟨by decide +kernel, by decide +kernel⟩, List.mem_of_getElem? (i := 100) (by decide +kernel), List.mem_of_getElem? (i := 288) (by decide +kernel), List.mem_of_getElem? (i := 289) (by decide +kernel)⟩
theorem lw_p6 : lw_okq (⟨"FrameTables$Search", "addBegins", "(III)V"⟩, 9) := ⟨⟨by decide +kernel, by decide +kernel⟩, List.mem_of_getElem? (i := 100) (by decide +kernel), List.mem_of_getElem? (i := 292) (by decide +kernel), List.mem_of_getElem? (i := 293) (by decide +kernel)⟩
theorem lw_p7 : lw_okq (⟨"FrameTables$Search", "keepRow", "(I)V"⟩, 9) := ⟨⟨by decide +kernel, by decide +kernel⟩, List.mem_of_getElem? (i := 100) (by decide +kernel), List.mem_of_getElem? (i := 296) (by decide +kernel), List.mem_of_getElem? (i := 297) (by decide +kernel)⟩
theorem lw_p8 : lw_okq (⟨"FrameTables$Search", "leaveClosedPlaces", "()V"⟩, 9) := ⟨⟨by decide +kernel, by decide +kernel⟩, List.mem_of_getElem? (i := 100) (by decide +kernel), List.mem_of_getElem? (i := 300) (by decide +kernel), List.mem_of_getElem? (i := 301) (by decide +kernel)⟩
theorem lw_p9 : lw_okq (⟨"FrameTables$Search", "isClosed", "(I)Z"⟩, 9) := ⟨⟨by decide +kernel, by decide +kernel⟩, List.mem_of_getElem? (i := 100) (by decide +kernel), List.mem_of_getElem? (i := 304) (by decide +kernel), List.mem_of_getElem? (i := 305) (by decide +kernel)⟩
theorem lw_p10 : lw_okq (⟨"FrameTables", "breaks", "(II)Z"⟩, 7) := ⟨⟨by decide +kernel, by decide +kernel⟩, List.mem_of_getElem? (i := 14) (by decide +kernel), List.mem_of_getElem? (i := 347) (by decide +kernel), List.mem_of_getElem? (i := 348) (by decide +kernel)⟩
theorem lw_p11 : lw_okq (⟨"FrameTables$Parser", "takeLine", "(IILFrameTables$Table;)Z"⟩, 4) := ⟨⟨by decide +kernel, by decide +kernel⟩, List.mem_of_getElem? (i := 81) (by decide +kernel), List.mem_of_getElem? (i := 387) (by decide +kernel), List.mem_of_getElem? (i := 388) (by decide +kernel)⟩
theorem lw_p12 : lw_okq (⟨"FrameTables$Parser", "nextWord", "()Z"⟩, 4) := ⟨⟨by decide +kernel, by decide +kernel⟩, List.mem_of_getElem? (i := 81) (by decide +kernel), List.mem_of_getElem? (i := 391) (by decide +kernel), List.mem_of_getElem? (i := 392) (by decide +kernel)⟩
theorem lw_p13 : lw_okq (⟨"FrameTables$Parser", "wordIs", "(Ljava/lang/String;)Z"⟩, 4) := ⟨⟨by decide +kernel, by decide +kernel⟩, List.mem_of_getElem? (i := 81) (by decide +kernel), List.mem_of_getElem? (i := 396) (by decide +kernel), List.mem_of_getElem? (i := 397) (by decide +kernel)⟩
theorem lw_p14 : lw_okq (⟨"FrameTables$Parser", "takeFrame", "(LFrameTables$Table;)Z"⟩, 4) := ⟨⟨by decide +kernel, by decide +kernel⟩, List.mem_of_getElem? (i := 81) (by decide +kernel), List.mem_of_getElem? (i := 448) (by decide +kernel), List.mem_of_getElem? (i := 449) (by decide +kernel)⟩
theorem lw_p15 : lw_okq (⟨"FrameTables$Parser", "nextNumber", "()I"⟩, 4) := ⟨⟨by decide +kernel, by decide +kernel⟩, List.mem_of_getElem? (i := 81) (by decide +kernel), List.mem_of_getElem? (i := 452) (by decide +kernel), List.mem_of_getElem? (i := 453) (by decide +kernel)⟩
def lw_privs_1 : List (MethodName × Nat) := [(⟨"FrameTables", "identifierOf", "(I)I"⟩, 7), (⟨"FrameTables$Table", "comesBefore", "(II)Z"⟩, 7), (⟨"FrameTables$Search", "lay", "(LFrameTables$Table;)V"⟩, 9), (⟨"FrameTables$Search", "enter", "(II)V"⟩, 9), (⟨"FrameTables$Search", "mostBeginsWith", "(II)I"⟩, 9), (⟨"FrameTables$Search", "goOn", "(II)V"⟩, 9), (⟨"FrameTables$Search", "addBegins", "(III)V"⟩, 9), (⟨"FrameTables$Search", "keepRow", "(I)V"⟩, 9), (⟨"FrameTables$Search", "leaveClosedPlaces", "()V"⟩, 9), (⟨"FrameTables$Search", "isClosed", "(I)Z"⟩, 9), (⟨"FrameTables", "breaks", "(II)Z"⟩, 7), (⟨"FrameTables$Parser", "takeLine", "(IILFrameTables$Table;)Z"⟩, 4), (⟨"FrameTables$Parser", "nextWord", "()Z"⟩, 4), (⟨"FrameTables$Parser", "wordIs", "(Ljava/lang/String;)Z"⟩, 4), (⟨"FrameTables$Parser", "takeFrame", "(LFrameTables$Table;)Z"⟩, 4), (⟨"FrameTables$Parser", "nextNumber", "()I"⟩, 4)]
theorem lw_r1 : ∀ q ∈ lw_privs_1, lw_okq q := List.forall_mem_cons.mpr ⟨lw_p0, List.forall_mem_cons.mpr ⟨lw_p1, List.forall_mem_cons.mpr ⟨lw_p2, List.forall_mem_cons.mpr ⟨lw_p3, List.forall_mem_cons.mpr ⟨lw_p4, List.forall_mem_cons.mpr ⟨lw_p5, List.forall_mem_cons.mpr ⟨lw_p6, List.forall_mem_cons.mpr ⟨lw_p7, List.forall_mem_cons.mpr ⟨lw_p8, List.forall_mem_cons.mpr ⟨lw_p9, List.forall_mem_cons.mpr ⟨lw_p10, List.forall_mem_cons.mpr ⟨lw_p11, List.forall_mem_cons.mpr ⟨lw_p12, List.forall_mem_cons.mpr ⟨lw_p13, List.forall_mem_cons.mpr ⟨lw_p14, List.forall_mem_cons.mpr ⟨lw_p15, fun _ h => absurd h List.not_mem_nil⟩⟩⟩⟩⟩⟩⟩⟩⟩⟩⟩⟩⟩⟩⟩⟩
theorem lw_p16 : lw_okq (⟨"FrameTables$Parser", "takeReaders", "(LFrameTables$Table;)Z"⟩, 4) := ⟨⟨by decide +kernel, by decide +kernel⟩, List.mem_of_getElem? (i := 81) (by decide +kernel), List.mem_of_getElem? (i := 461) (by decide +kernel), List.mem_of_getElem? (i := 462) (by decide +kernel)⟩
theorem lw_p17 : lw_okq (⟨"FrameTables$Parser", "mayRead", "(LFrameTables$Table;II)Z"⟩, 4) := ⟨⟨by decide +kernel, by decide +kernel⟩, List.mem_of_getElem? (i := 81) (by decide +kernel), List.mem_of_getElem? (i := 466) (by decide +kernel), List.mem_of_getElem? (i := 467) (by decide +kernel)⟩
theorem lw_p18 : lw_okq (⟨"FrameTables", "writeLine", "(I)V"⟩, 7) := ⟨⟨by decide +kernel, by decide +kernel⟩, List.mem_of_getElem? (i := 14) (by decide +kernel), List.mem_of_getElem? (i := 482) (by decide +kernel), List.mem_of_getElem? (i := 483) (by decide +kernel)⟩
theorem lw_p19 : lw_okq (⟨"FrameTablesModel", "isFrame", "(I)Z"⟩, 19) := ⟨⟨by decide +kernel, by decide +kernel⟩, List.mem_of_getElem? (i := 527) (by decide +kernel), List.mem_of_getElem? (i := 605) (by decide +kernel), List.mem_of_getElem? (i := 606) (by decide +kernel)⟩
theorem lw_p20 : lw_okq (⟨"FrameTablesModel", "readers", "(I)I"⟩, 19) := ⟨⟨by decide +kernel, by decide +kernel⟩, List.mem_of_getElem? (i := 527) (by decide +kernel), List.mem_of_getElem? (i := 610) (by decide +kernel), List.mem_of_getElem? (i := 611) (by decide +kernel)⟩
theorem lw_p21 : lw_okq (⟨"FrameTablesModel", "identifierOf", "(I)I"⟩, 19) := ⟨⟨by decide +kernel, by decide +kernel⟩, List.mem_of_getElem? (i := 527) (by decide +kernel), List.mem_of_getElem? (i := 618) (by decide +kernel), List.mem_of_getElem? (i := 619) (by decide +kernel)⟩
theorem lw_p22 : lw_okq (⟨"FrameTablesModel", "findCounted", "()I"⟩, 19) := ⟨⟨by decide +kernel, by decide +kernel⟩, List.mem_of_getElem? (i := 527) (by decide +kernel), List.mem_of_getElem? (i := 633) (by decide +kernel), List.mem_of_getElem? (i := 634) (by decide +kernel)⟩
theorem lw_p23 : lw_okq (⟨"FrameTablesModel", "clearLoad", "()V"⟩, 19) := ⟨⟨by decide +kernel, by decide +kernel⟩, List.mem_of_getElem? (i := 527) (by decide +kernel), List.mem_of_getElem? (i := 637) (by decide +kernel), List.mem_of_getElem? (i := 638) (by decide +kernel)⟩
theorem lw_p24 : lw_okq (⟨"FrameTablesModel", "search", "(IJ)Z"⟩, 19) := ⟨⟨by decide +kernel, by decide +kernel⟩, List.mem_of_getElem? (i := 527) (by decide +kernel), List.mem_of_getElem? (i := 641) (by decide +kernel), List.mem_of_getElem? (i := 642) (by decide +kernel)⟩
theorem lw_p25 : lw_okq (⟨"FrameTablesModel", "begin", "(III)V"⟩, 19) := ⟨⟨by decide +kernel, by decide +kernel⟩, List.mem_of_getElem? (i := 527) (by decide +kernel), List.mem_of_getElem? (i := 645) (by decide +kernel), List.mem_of_getElem? (i := 646) (by decide +kernel)⟩
theorem lw_p26 : lw_okq (⟨"FrameTablesModel", "peak", "()I"⟩, 19) := ⟨⟨by decide +kernel, by decide +kernel⟩, List.mem_of_getElem? (i := 527) (by decide +kernel), List.mem_of_getElem? (i := 649) (by decide +kernel), List.mem_of_getElem? (i := 650) (by decide +kernel)⟩
theorem lw_p27 : lw_okq (⟨"FrameTablesModel", "takeBest", "(I)V"⟩, 19) := ⟨⟨by decide +kernel, by decide +kernel⟩, List.mem_of_getElem? (i := 527) (by decide +kernel), List.mem_of_getElem? (i := 653) (by decide +kernel), List.mem_of_getElem? (i := 654) (by decide +kernel)⟩
theorem lw_p28 : lw_okq (⟨"FrameTablesModel", "isWrong", "(II)Z"⟩, 19) := ⟨⟨by decide +kernel, by decide +kernel⟩, List.mem_of_getElem? (i := 527) (by decide +kernel), List.mem_of_getElem? (i := 673) (by decide +kernel), List.mem_of_getElem? (i := 674) (by decide +kernel)⟩
theorem lw_p29 : lw_okq (⟨"FrameTablesModel", "type", "(I)V"⟩, 19) := ⟨⟨by decide +kernel, by decide +kernel⟩, List.mem_of_getElem? (i := 527) (by decide +kernel), List.mem_of_getElem? (i := 681) (by decide +kernel), List.mem_of_getElem? (i := 682) (by decide +kernel)⟩
theorem lw_p30 : lw_okq (⟨"FrameTablesModel", "typeWord", "(Z)V"⟩, 19) := ⟨⟨by decide +kernel, by decide +kernel⟩, List.mem_of_getElem? (i := 527) (by decide +kernel), List.mem_of_getElem? (i := 689) (by decide +kernel), List.mem_of_getElem? (i := 690) (by decide +kernel)⟩
theorem lw_p31 : lw_okq (⟨"FrameTablesModel", "typeNumber", "(I)V"⟩, 19) := ⟨⟨by decide +kernel, by decide +kernel⟩, List.mem_of_getElem? (i := 527) (by decide +kernel), List.mem_of_getElem? (i := 693) (by decide +kernel), List.mem_of_getElem? (i := 694) (by decide +kernel)⟩
def lw_privs_2 : List (MethodName × Nat) := [(⟨"FrameTables$Parser", "takeReaders", "(LFrameTables$Table;)Z"⟩, 4), (⟨"FrameTables$Parser", "mayRead", "(LFrameTables$Table;II)Z"⟩, 4), (⟨"FrameTables", "writeLine", "(I)V"⟩, 7), (⟨"FrameTablesModel", "isFrame", "(I)Z"⟩, 19), (⟨"FrameTablesModel", "readers", "(I)I"⟩, 19), (⟨"FrameTablesModel", "identifierOf", "(I)I"⟩, 19), (⟨"FrameTablesModel", "findCounted", "()I"⟩, 19), (⟨"FrameTablesModel", "clearLoad", "()V"⟩, 19), (⟨"FrameTablesModel", "search", "(IJ)Z"⟩, 19), (⟨"FrameTablesModel", "begin", "(III)V"⟩, 19), (⟨"FrameTablesModel", "peak", "()I"⟩, 19), (⟨"FrameTablesModel", "takeBest", "(I)V"⟩, 19), (⟨"FrameTablesModel", "isWrong", "(II)Z"⟩, 19), (⟨"FrameTablesModel", "type", "(I)V"⟩, 19), (⟨"FrameTablesModel", "typeWord", "(Z)V"⟩, 19), (⟨"FrameTablesModel", "typeNumber", "(I)V"⟩, 19)]
theorem lw_r2 : ∀ q ∈ lw_privs_2, lw_okq q := List.forall_mem_cons.mpr ⟨lw_p16, List.forall_mem_cons.mpr ⟨lw_p17, List.forall_mem_cons.mpr ⟨lw_p18, List.forall_mem_cons.mpr ⟨lw_p19, List.forall_mem_cons.mpr ⟨lw_p20, List.forall_mem_cons.mpr ⟨lw_p21, List.forall_mem_cons.mpr ⟨lw_p22, List.forall_mem_cons.mpr ⟨lw_p23, List.forall_mem_cons.mpr ⟨lw_p24, List.forall_mem_cons.mpr ⟨lw_p25, List.forall_mem_cons.mpr ⟨lw_p26, List.forall_mem_cons.mpr ⟨lw_p27, List.forall_mem_cons.mpr ⟨lw_p28, List.forall_mem_cons.mpr ⟨lw_p29, List.forall_mem_cons.mpr ⟨lw_p30, List.forall_mem_cons.mpr ⟨lw_p31, fun _ h => absurd h List.not_mem_nil⟩⟩⟩⟩⟩⟩⟩⟩⟩⟩⟩⟩⟩⟩⟩⟩
theorem lw_p32 : lw_okq (⟨"FrameTablesModel", "passSpaces", "()V"⟩, 19) := ⟨⟨by decide +kernel, by decide +kernel⟩, List.mem_of_getElem? (i := 527) (by decide +kernel), List.mem_of_getElem? (i := 705) (by decide +kernel), List.mem_of_getElem? (i := 706) (by decide +kernel)⟩
theorem lw_p33 : lw_okq (⟨"FrameTablesModel", "at0", "()I"⟩, 19) := ⟨⟨by decide +kernel, by decide +kernel⟩, List.mem_of_getElem? (i := 527) (by decide +kernel), List.mem_of_getElem? (i := 709) (by decide +kernel), List.mem_of_getElem? (i := 710) (by decide +kernel)⟩
theorem lw_p34 : lw_okq (⟨"FrameTablesModel", "isEnd", "()Z"⟩, 19) := ⟨⟨by decide +kernel, by decide +kernel⟩, List.mem_of_getElem? (i := 527) (by decide +kernel), List.mem_of_getElem? (i := 713) (by decide +kernel), List.mem_of_getElem? (i := 714) (by decide +kernel)⟩
theorem lw_p35 : lw_okq (⟨"FrameTablesModel", "isLine", "(I)Z"⟩, 19) := ⟨⟨by decide +kernel, by decide +kernel⟩, List.mem_of_getElem? (i := 527) (by decide +kernel), List.mem_of_getElem? (i := 717) (by decide +kernel), List.mem_of_getElem? (i := 718) (by decide +kernel)⟩
theorem lw_p36 : lw_okq (⟨"FrameTablesModel", "isWord", "(Z)Z"⟩, 19) := ⟨⟨by decide +kernel, by decide +kernel⟩, List.mem_of_getElem? (i := 527) (by decide +kernel), List.mem_of_getElem? (i := 721) (by decide +kernel), List.mem_of_getElem? (i := 722) (by decide +kernel)⟩
theorem lw_p37 : lw_okq (⟨"FrameTablesModel", "isBetween", "()Z"⟩, 19) := ⟨⟨by decide +kernel, by decide +kernel⟩, List.mem_of_getElem? (i := 527) (by decide +kernel), List.mem_of_getElem? (i := 725) (by decide +kernel), List.mem_of_getElem? (i := 726) (by decide +kernel)⟩
theorem lw_p38 : lw_okq (⟨"FrameTablesModel", "isNumber", "(II)Z"⟩, 19) := ⟨⟨by decide +kernel, by decide +kernel⟩, List.mem_of_getElem? (i := 527) (by decide +kernel), List.mem_of_getElem? (i := 729) (by decide +kernel), List.mem_of_getElem? (i := 730) (by decide +kernel)⟩
theorem lw_p39 : lw_okq (⟨"FrameTablesModel", "takeFrames", "(I)V"⟩, 19) := ⟨⟨by decide +kernel, by decide +kernel⟩, List.mem_of_getElem? (i := 527) (by decide +kernel), List.mem_of_getElem? (i := 733) (by decide +kernel), List.mem_of_getElem? (i := 734) (by decide +kernel)⟩
def lw_privs_3 : List (MethodName × Nat) := [(⟨"FrameTablesModel", "passSpaces", "()V"⟩, 19), (⟨"FrameTablesModel", "at0", "()I"⟩, 19), (⟨"FrameTablesModel", "isEnd", "()Z"⟩, 19), (⟨"FrameTablesModel", "isLine", "(I)Z"⟩, 19), (⟨"FrameTablesModel", "isWord", "(Z)Z"⟩, 19), (⟨"FrameTablesModel", "isBetween", "()Z"⟩, 19), (⟨"FrameTablesModel", "isNumber", "(II)Z"⟩, 19), (⟨"FrameTablesModel", "takeFrames", "(I)V"⟩, 19)]
theorem lw_r3 : ∀ q ∈ lw_privs_3, lw_okq q := List.forall_mem_cons.mpr ⟨lw_p32, List.forall_mem_cons.mpr ⟨lw_p33, List.forall_mem_cons.mpr ⟨lw_p34, List.forall_mem_cons.mpr ⟨lw_p35, List.forall_mem_cons.mpr ⟨lw_p36, List.forall_mem_cons.mpr ⟨lw_p37, List.forall_mem_cons.mpr ⟨lw_p38, List.forall_mem_cons.mpr ⟨lw_p39, fun _ h => absurd h List.not_mem_nil⟩⟩⟩⟩⟩⟩⟩⟩
def lw_privs : List (MethodName × Nat) := lw_privs_1 ++ (lw_privs_2 ++ (lw_privs_3))
def lw_tbl : List Cond := k2_sels lw_privs ++ tables_1
theorem lw_privs_ok : ∀ q ∈ lw_privs, lw_okq q := by
  show ∀ q ∈ lw_privs_1 ++ (lw_privs_2 ++ (lw_privs_3)), lw_okq q
  exact List.forall_mem_append.mpr ⟨lw_r1, List.forall_mem_append.mpr ⟨lw_r2, lw_r3⟩⟩
end
section
/-! names: the classes that the worlds hold, the words of the tables, what is said of literals and nest mates -/
def fT0 : u_T := fun k => match k with
  | 0 => ("FrameTables", "table", "LFrameTables$Table;", false)
  | 1 => ("FrameTables", "draft", "LFrameTables$Table;", false)
  | 2 => ("FrameTables", "spans", "LFrameTables$Spans;", true)
  | 3 => ("FrameTables", "text", "LFrameTables$Text;", true)
  | 4 => ("FrameTables", "parser", "LFrameTables$Parser;", true)
  | 5 => ("FrameTables", "search", "LFrameTables$Search;", true)
  | _ => ("FrameTables", "spreadWasExact", "Z", false)
def t0_ : Nat → FieldType := fun k => match k with
  | 0 => .object "FrameTables$Table"
  | 1 => .object "FrameTables$Table"
  | 2 => .object "FrameTables$Spans"
  | 3 => .object "FrameTables$Text"
  | 4 => .object "FrameTables$Parser"
  | 5 => .object "FrameTables$Search"
  | _ => .boolean
def fT1 : u_T := fun k => match k with
  | 0 => ("FrameTables$Table", "senders", "[I", true)
  | 1 => ("FrameTables$Table", "periods", "[I", true)
  | 2 => ("FrameTables$Table", "ranks", "[I", true)
  | 3 => ("FrameTables$Table", "gaps", "[I", true)
  | 4 => ("FrameTables$Table", "offsets", "[I", true)
  | 5 => ("FrameTables$Table", "timeouts", "[I", true)
  | _ => ("FrameTables$Table", "size", "I", false)
def t1_ : Nat → FieldType := fun k => match k with
  | 0 => .array .int
  | 1 => .array .int
  | 2 => .array .int
  | 3 => .array .int
  | 4 => .array .int
  | 5 => .array .int
  | _ => .int
def fT2 : u_T := fun k => match k with
  | 0 => ("FrameTables$Spans", "firsts", "[I", true)
  | _ => ("FrameTables$Spans", "lasts", "[I", true)
def t2_ : Nat → FieldType := fun k => match k with
  | 0 => .array .int
  | _ => .array .int
def fT3 : u_T := fun k => match k with
  | 0 => ("FrameTables$Text", "signs", "[C", true)
  | 1 => ("FrameTables$Text", "length", "I", false)
  | _ => ("FrameTables$Text", "lostSigns", "Z", false)
def t3_ : Nat → FieldType := fun k => match k with
  | 0 => .array .char
  | 1 => .int
  | _ => .boolean
def fT4 : u_T := fun k => match k with
  | 0 => ("FrameTables$Parser", "text", "LFrameTables$Text;", true)
  | 1 => ("FrameTables$Parser", "wordStart", "I", false)
  | 2 => ("FrameTables$Parser", "wordEnd", "I", false)
  | _ => ("FrameTables$Parser", "lineEnd", "I", false)
def t4_ : Nat → FieldType := fun k => match k with
  | 0 => .object "FrameTables$Text"
  | 1 => .int
  | 2 => .int
  | _ => .int
def fT5 : u_T := fun k => match k with
  | 0 => ("FrameTables$Search", "frames", "[I", true)
  | 1 => ("FrameTables$Search", "strides", "[I", true)
  | 2 => ("FrameTables$Search", "nextOffsets", "[I", true)
  | 3 => ("FrameTables$Search", "peaksBefore", "[I", true)
  | 4 => ("FrameTables$Search", "bestRow", "[I", true)
  | 5 => ("FrameTables$Search", "begins", "[I", true)
  | 6 => ("FrameTables$Search", "places", "I", false)
  | 7 => ("FrameTables$Search", "place", "I", false)
  | _ => ("FrameTables$Search", "bestPeak", "I", false)
def t5_ : Nat → FieldType := fun k => match k with
  | 0 => .array .int
  | 1 => .array .int
  | 2 => .array .int
  | 3 => .array .int
  | 4 => .array .int
  | 5 => .array .int
  | 6 => .int
  | 7 => .int
  | _ => .int
def fT6 : u_T := fun k => match k with
  | 0 => ("FrameTablesModel", "code", "I", false)
  | 1 => ("FrameTablesModel", "frames", "I", false)
  | 2 => ("FrameTablesModel", "sender", "[I", true)
  | 3 => ("FrameTablesModel", "period", "[I", true)
  | 4 => ("FrameTablesModel", "rank", "[I", true)
  | 5 => ("FrameTablesModel", "gap", "[I", true)
  | 6 => ("FrameTablesModel", "offset", "[I", true)
  | 7 => ("FrameTablesModel", "timeout", "[I", true)
  | 8 => ("FrameTablesModel", "from", "[I", true)
  | 9 => ("FrameTablesModel", "to", "[I", true)
  | 10 => ("FrameTablesModel", "isExact", "Z", false)
  | 11 => ("FrameTablesModel", "size", "I", false)
  | 12 => ("FrameTablesModel", "text", "[I", true)
  | 13 => ("FrameTablesModel", "load", "[I", true)
  | 14 => ("FrameTablesModel", "row", "[I", true)
  | 15 => ("FrameTablesModel", "which", "[I", true)
  | 16 => ("FrameTablesModel", "best", "[I", true)
  | 17 => ("FrameTablesModel", "place", "I", false)
  | _ => ("FrameTablesModel", "number", "I", false)
def t6_ : Nat → FieldType := fun k => match k with
  | 0 => .int
  | 1 => .int
  | 2 => .array .int
  | 3 => .array .int
  | 4 => .array .int
  | 5 => .array .int
  | 6 => .array .int
  | 7 => .array .int
  | 8 => .array .int
  | 9 => .array .int
  | 10 => .boolean
  | 11 => .int
  | 12 => .array .int
  | 13 => .array .int
  | 14 => .array .int
  | 15 => .array .int
  | 16 => .array .int
  | 17 => .int
  | _ => .int
abbrev vwCl : List vw_C := [("FrameTables", fT0, 7), ("FrameTables$Table", fT1, 7), ("FrameTables$Spans", fT2, 2), ("FrameTables$Text", fT3, 3), ("FrameTables$Parser", fT4, 4), ("FrameTables$Search", fT5, 9), ("FrameTablesModel", fT6, 19)]
def wT : List Cond := lw_tbl.filter goodWord
theorem wT_good : GoodIn wT wT := fun w h => ⟨h, good_of_word (List.mem_filter.mp h).2⟩
theorem wT_m {w : Cond} (i : Nat) (h : lw_tbl[i]? = some w) (hg : goodWord w = true) : w ∈ wT := List.mem_filter.mpr ⟨List.mem_of_getElem? h, hg⟩
abbrev TyS : Type := List (ClassId × FieldType) × (Nat → Nat)
def wN : List (String × Nat × MethodName × String) := [("FrameTables", 9, ⟨"FrameTables$Table", "<init>", "()V"⟩, "FrameTables"), ("FrameTables", 28, ⟨"FrameTables$Text", "<init>", "()V"⟩, "FrameTables"), ("FrameTables", 44, ⟨"FrameTables$Search", "<init>", "()V"⟩, "FrameTables"), ("FrameTables$Parser", 64, ⟨"FrameTables", "isNode", "(I)Z"⟩, "FrameTables"), ("FrameTables$Parser", 68, ⟨"FrameTables", "isPeriod", "(I)Z"⟩, "FrameTables"), ("FrameTables$Parser", 71, ⟨"FrameTables", "isRank", "(I)Z"⟩, "FrameTables")]
def sRf : List (String × Nat × String × Nat) := [("FrameTables$Parser", 48, "frame", 0), ("FrameTables$Parser", 81, "reads", 1), ("FrameTables", 177, "frame", 0), ("FrameTables", 195, "reads", 1)]
abbrev nSt : Nat := 2
def sLen : List Nat := [5, 5]
def sNat : List (List Nat) := [[102, 114, 97, 109, 101], [114, 101, 97, 100, 115]]
def sByt : List (List Int32) := [[102, 114, 97, 109, 101], [114, 101, 97, 100, 115]]
def sln (i : Nat) : Nat := sLen.getD i 0
/-! the two literals -/
def sch (i j : Nat) : Nat := (sNat.getD i []).getD j 0
theorem sln_le (i : Nat) : sln i ≤ 5 := by
  match i with
  | 0 => decide
  | 1 => decide
  | _ + 2 => exact Nat.zero_le _
theorem sch_le (i j : Nat) : sch i j ≤ 255 := by
  match i with
  | 0 =>
    match j with
    | 0 => decide
    | 1 => decide
    | 2 => decide
    | 3 => decide
    | 4 => decide
    | _ + 5 => exact Nat.zero_le _
  | 1 =>
    match j with
    | 0 => decide
    | 1 => decide
    | 2 => decide
    | 3 => decide
    | 4 => decide
    | _ + 5 => exact Nat.zero_le _
  | _ + 2 => exact Nat.zero_le _
/-- what else holds at every call: nest mates' links, the literals (outside A), COMPACT_STRINGS -/
def SF (E : Nat → Nat) (A : Nat → Prop) (U : State) : Prop :=
  (∀ q ∈ wN, va_Nw (.methodLinkNest q.1 q.2.1 q.2.2.1 q.2.2.2) U) ∧ (∀ q ∈ sRf, vk_R q.1 q.2.1 q.2.2.1 (E q.2.2.2) U) ∧ vk_S nSt sLen sByt E (fun i => E (i + nSt)) A U U.heap ∧ va_Z "java/lang/String" "COMPACT_STRINGS" "Z" (.int 1) A U U.heap ∧ ∃ v : Value, (v = .null ∨ ∃ a : Nat, v = .ref a) ∧ va_Z "jdk/internal/util/Preconditions" "SIOOBE_FORMATTER" "Ljava/util/function/BiFunction;" v A U U.heap
theorem SF_calling {E : Nat → Nat} {A : Nat → Prop} {U : State} {g : JFrame} {mk : MethodId} {a : Array Value} (h : SF E A U) : SF E A (U.calling g mk a) :=
  ⟨fun q hq => va_Nw.same rfl (u := U) rfl (h.1 q hq), fun q hq => vk_R.same (u := U) rfl (h.2.1 q hq), vk_S.moved (u := U) (Vm.Alike.refl U.vm) h.2.2.1, va_Z.moved (u := U) (Vm.Alike.refl U.vm) h.2.2.2.1, by obtain ⟨v, h1, h2⟩ := h.2.2.2.2; exact ⟨v, h1, va_Z.moved (u := U) (Vm.Alike.refl U.vm) h2⟩⟩
theorem SF_call {E : Nat → Nat} {A B : Nat → Prop} {s U : State} {H : Heap} {locs : List Loc} (h : SF E A s) (hS : va_S A s.heap H locs) (hF : ∀ q, B q → A q) (hU : U.heap = H) (hW : s.WarmedH U.vm) : SF E B U := by
  refine ⟨fun q hq => va_Nw.warmM hW (h.1 q hq), fun q hq => vk_R.warm hW (h.2.1 q hq), ?_, ?_, ?_⟩
  · rw [hU]; exact vk_S.moved hW.alike ((h.2.2.1.kept hS.2.1).narrow hF)
  · rw [hU]; exact va_Z.moved hW.alike ((h.2.2.2.1.kept hS.2.1).narrow hF)
  · obtain ⟨v, h1, h2⟩ := h.2.2.2.2
    rw [hU]; exact ⟨v, h1, va_Z.moved hW.alike ((h2.kept hS.2.1).narrow hF)⟩
end
section
/-! V: the machine walk over pure data. Own rows; each stands on a row of the kit. -/
def iI (z : Int) : Int32 := Int32.ofInt z
theorem iI_nat (a : Nat) : iI (a : Int) = nI a := Int32.ofInt_eq_ofNat
theorem nI_iI (a : Nat) : nI a = iI (a : Int) := (iI_nat a).symm
theorem iI_toInt {z : Int} (h1 : -2147483648 ≤ z) (h2 : z < 2147483648) : (iI z).toInt = z := Int32.toInt_ofInt_of_le (by simpa using h1) (by simpa using h2)
theorem iI_add (a b : Int) : iI a + iI b = iI (a + b) := (Int32.ofInt_add a b).symm
theorem iI_sub (a b : Int) : iI a - iI b = iI (a - b) := (Int32.ofInt_sub a b).symm
theorem iI_mul (a b : Int) : iI a * iI b = iI (a * b) := (Int32.ofInt_mul a b).symm
theorem iI_neg (a : Int) : -iI a = iI (-a) := (Int32.ofInt_neg a).symm
theorem iI_raw (x : Int32) : iI x.toInt = x := Int32.ofInt_toInt x
theorem nT {a : Nat} (h : a < 2147483648) : (nI a).toInt = (a : Int) := nI_toInt (by simpa using h)
def jI (z : Int) : Int64 := Int64.ofInt z
theorem jI_toInt {z : Int} (h1 : -9223372036854775808 ≤ z) (h2 : z < 9223372036854775808) : (jI z).toInt = z := Int64.toInt_ofInt_of_le (by simpa using h1) (by simpa using h2)
theorem jI_add (a b : Int) : jI a + jI b = jI (a + b) := (Int64.ofInt_add a b).symm
theorem jI_raw (x : Int64) : jI x.toInt = x := Int64.ofInt_toInt x
noncomputable def bI (P : Prop) : Int32 := @ite Int32 P (Classical.propDecidable P) 1 0
theorem bI_t {P : Prop} (h : P) : bI P = 1 := by unfold bI; exact if_pos h
theorem bI_f {P : Prop} (h : ¬ P) : bI P = 0 := by unfold bI; exact if_neg h
theorem bI_1 {P : Prop} (h : P) : nI 1 = bI P := (bI_t h).symm
theorem bI_0 {P : Prop} (h : ¬ P) : nI 0 = bI P := (bI_f h).symm
theorem bI_z {P : Prop} : bI P = 0 ↔ ¬ P := ⟨fun h q => by rw [bI_t q] at h; exact absurd h (by decide), bI_f⟩
theorem bI_c {P Q : Prop} (h : P ↔ Q) : bI P = bI Q := by rw [propext h]
theorem bI_nar (P : Prop) : narrow .boolean (.int (bI P)) = .int (bI P) := by
  by_cases h : P
  · rw [bI_t h]; decide
  · rw [bI_f h]; decide
theorem nI_inc (a b : Nat) : nI a + Int32.ofInt (b : Int) = nI (a + b) := by rw [show Int32.ofInt (b : Int) = nI b from Int32.ofInt_eq_ofNat, nI_add]
theorem iI_inc {x : Int32} {z b : Int} (h : x = iI z) : x + Int32.ofInt b = iI (z + b) := by rw [h]; exact iI_add z b
theorem iI_nn {z : Int} (h : 0 ≤ z) : iI z = nI z.toNat := by rw [← iI_nat, Int.toNat_of_nonneg h]
theorem oct_eq (x s : Int32) (k : Nat) (hs : ((s.toUInt32 &&& Int32.toUInt32 31).toBitVec % 32).toNat = k) : (x.toUInt32 >>> (s.toUInt32 &&& Int32.toUInt32 31)).toInt32 &&& nI 255 = nI (x.toBitVec.toNat / 2 ^ k % 256) := by rw [pk_and _ 8 (by decide), pk_ushr x s k hs]
theorem iI_ton {z : Int} {k : Nat} (h : z = (k : Int)) : iI z = nI k := by rw [h, iI_nat]
theorem bI_fit (P : Prop) : fits .boolean (.int (bI P)) = true := by
  by_cases h : P
  · rw [bI_t h]; decide
  · rw [bI_f h]; decide
def rmD (d : Nat) : Room := { frames := d, cells := 0, slots := 0, locals := 40 * d }
def rmA (d mc ms : Nat) : Room := { frames := d, cells := mc, slots := ms, locals := 40 * d }
def zF : Nat → Nat := fun _ => 0
def adr (l : List Nat) : Nat → Nat := fun k => l.getD k 0
def TY (cI cC : ClassId) (E : Nat → Nat) : TyS := ([(cI, .int), (cC, .char)], E)
def updN (f : Nat → Nat) (k x : Nat) : Nat → Nat := fun j => if j = k then x else f j
theorem updN_s (f : Nat → Nat) (k x : Nat) : updN f k x k = x := if_pos rfl
theorem updN_n {f : Nat → Nat} {k x j : Nat} (h : j ≠ k) : updN f k x j = f j := if_neg h
def updZ (f : Nat → Int) (k : Nat) (x : Int) : Nat → Int := fun j => if j = k then x else f j
theorem updZ_s (f : Nat → Int) (k : Nat) (x : Int) : updZ f k x k = x := if_pos rfl
theorem updZ_n {f : Nat → Int} {k j : Nat} {x : Int} (h : j ≠ k) : updZ f k x j = f j := if_neg h
theorem upd_nI (f : Nat → Nat) (k x : Nat) : upd (fun j => nI (f j)) k (nI x) = fun j => nI (updN f k x j) := by
  funext j
  unfold upd updN
  by_cases h : j = k
  · rw [if_pos h, if_pos h]
  · rw [if_neg h, if_neg h]
theorem upd_iI (f : Nat → Int) (k : Nat) (x : Int) : upd (fun j => iI (f j)) k (iI x) = fun j => iI (updZ f k x j) := by
  funext j
  unfold upd updZ
  by_cases h : j = k
  · rw [if_pos h, if_pos h]
  · rw [if_neg h, if_neg h]
def pickW (ws : va_W) (is : List Nat) : va_W := is.filterMap (fun i => ws[i]?)
theorem pickW_map {ws : va_W} {is : List Nat} (h : ∀ i ∈ is, i < ws.length) : is.map (fun i => ws[i]?) = (pickW ws is).map some := by
  unfold pickW
  induction is with
  | nil => rfl
  | cons i is ih =>
    have h1 : ws[i]? = some (ws[i]'(h i List.mem_cons_self)) := List.getElem?_eq_getElem _
    rw [List.map_cons, List.filterMap_cons, h1]
    simp only [List.map_cons]
    rw [← ih (fun j hj => h j (List.mem_cons_of_mem _ hj))]
abbrev MI : Type := MethodName × ByteArray × Nat × Option FieldType
def Cx (p : Program) (s : State) (m : MethodId) (args : Array Value) (meth : Method) (c : Code) (cc : ByteArray) (nL : Nat) (own : String) (D : va_G) (tys : TyS) (A : Nat → Prop) : Prop :=
  p.tables.exec = Jvm.exec ∧ c.code = cc ∧ c.maxLocals = nL ∧ s.vm.findClass own = some m.cls ∧ (∀ w ∈ wT, w.before args s = true) ∧ va_K D vwCl tys.1 s ∧ (∀ q : Nat, s.heap.size ≤ q → A q) ∧ meth.locks = false ∧ SF tys.2 A s
def V (p : Program) (l : Launch) (e : Env) (R : Room) (s : State) (m : MethodId) (args : Array Value) (below : List Frame) (meth : Method) (c : Code) (nL : Nat) (D : va_G) (A : Nat → Prop) (cells slots : Nat) (Q : State → Prop) (ws : va_W) (lv : List (Nat × Value)) (pc : Nat) (st : List Value) : Prop :=
  ∀ (H : Heap) (locs : List Loc) (ls : Array Slot), va_P D vwCl ws H → va_D A ws → va_S A s.heap H locs → lv_has ls nL lv → W p l e R s m args below meth c H locs cells slots Q (F0 m pc ls st)
def CI (l : Launch) (D : va_G) (tys : TyS) (M : MI) (rm : Room) (As : List Value) (W0 : va_W) (R : Int32) (W1 : va_W) : Prop :=
  ∀ sz : Nat, Met l M.1 (.code M.1 M.2.1 M.2.2.1 M.2.2.2 :: wT) rm (va_Pc As (fun U => U.heap.size = sz ∧ va_P D vwCl W0 U.heap ∧ va_K D vwCl tys.1 U ∧ va_D (fun _ => True) W0 ∧ SF tys.2 (va_A W0 sz) U)) (va_Qi (fun (r : Int32) (_ : Unit) => r = R) (fun _ t => va_P D vwCl W1 t.heap ∧ va_K D vwCl tys.1 t ∧ va_D (va_A W0 sz) W1) (va_A W0 sz)) 0 0 (va_A W0 sz)
def CN (l : Launch) (D : va_G) (tys : TyS) (M : MI) (rm : Room) (As : List Value) (W0 : va_W) {S : Type} (post : S → Prop) (W1 : S → va_W) (mc ms : Nat) : Prop :=
  ∀ sz : Nat, Met l M.1 (.code M.1 M.2.1 M.2.2.1 M.2.2.2 :: wT) rm (va_Pc As (fun U => U.heap.size = sz ∧ va_P D vwCl W0 U.heap ∧ va_K D vwCl tys.1 U ∧ va_D (fun _ => True) W0 ∧ SF tys.2 (va_A W0 sz) U)) (va_Qv post (fun u t => va_P D vwCl (W1 u) t.heap ∧ va_K D vwCl tys.1 t ∧ va_D (va_A W0 sz) (W1 u)) (va_A W0 sz)) mc ms (va_A W0 sz)
def CV (l : Launch) (D : va_G) (tys : TyS) (M : MI) (rm : Room) (As : List Value) (W0 W1 : va_W) : Prop := CN l D tys M rm As W0 (fun _ : Unit => True) (fun _ => W1) 0 0
def okc (M : MI) (n : Nat) : Prop := M.1.cls ≠ "java/lang/invoke/MethodHandle" ∧ M.1.cls ≠ "java/lang/invoke/VarHandle" ∧ (parseMethodDescriptor M.1.desc).map (fun d => d.parameters.length) = some n
/-- the words of a call: virtual, static, of a constructor; and of a nest mate's -/
def cwv (own : String) (idx : Nat) (M : MI) (n : Nat) : Prop := .methodLink own idx M.1 ∈ wT ∧ .instanceMethod M.1 ∈ wT ∧ .selects M.1.cls M.1 M.1 ∈ wT ∧ .initialized M.1.cls ∈ wT ∧ .code M.1 M.2.1 M.2.2.1 M.2.2.2 ∈ wT ∧ okc M n
def cws (own : String) (idx : Nat) (M : MI) (n : Nat) : Prop := .methodLink own idx M.1 ∈ wT ∧ .static M.1 ∈ wT ∧ .initialized M.1.cls ∈ wT ∧ .code M.1 M.2.1 M.2.2.1 M.2.2.2 ∈ wT ∧ okc M n
def cwi (own : String) (idx : Nat) (M : MI) (n : Nat) : Prop := .methodLink own idx M.1 ∈ wT ∧ .instanceMethod M.1 ∈ wT ∧ .initialized M.1.cls ∈ wT ∧ .code M.1 M.2.1 M.2.2.1 M.2.2.2 ∈ wT ∧ M.1.name = "<init>" ∧ okc M n
def cwsN (own : String) (idx : Nat) (M : MI) (n : Nat) (host : String) : Prop := (own, idx, M.1, host) ∈ wN ∧ .static M.1 ∈ wT ∧ .initialized M.1.cls ∈ wT ∧ .code M.1 M.2.1 M.2.2.1 M.2.2.2 ∈ wT ∧ okc M n
def cwiN (own : String) (idx : Nat) (M : MI) (n : Nat) (host : String) : Prop := (own, idx, M.1, host) ∈ wN ∧ .instanceMethod M.1 ∈ wT ∧ .initialized M.1.cls ∈ wT ∧ .code M.1 M.2.1 M.2.2.1 M.2.2.2 ∈ wT ∧ M.1.name = "<init>" ∧ okc M n
theorem good_cons {y : MethodName} {b : ByteArray} {n : Nat} {r : Option FieldType} (h : .code y b n r ∈ wT) : GoodIn wT (.code y b n r :: wT) := by
  intro w hw
  rcases List.mem_cons.mp hw with e | e
  · subst e; exact wT_good _ h
  · exact wT_good _ e
section VR
variable {p : Program} {l : Launch} {e : Env} {R : Room} {s : State} {m : MethodId} {args : Array Value} {below : List Frame} {meth : Method} {c : Code}
variable {cc : ByteArray} {nL : Nat} {own : String} {D : va_G} {tys : TyS} {A : Nat → Prop} {cells slots : Nat} {Q : State → Prop}
variable {ws ws' : va_W} {lv lv' : List (Nat × Value)} {st rest : List Value} {pc n : Nat}
theorem V.iconst (C : Cx p s m args meth c cc nL own D tys A) {z : Int} {v : Int32} (hdg : decode cc pc = .ok (.iconst z, 1)) (hv : Int32.ofInt z = v) (hn : pc + 1 = n) (k : V p l e R s m args below meth c nL D A cells slots Q ws lv n (.int v :: st)) : V p l e R s m args below meth c nL D A cells slots Q ws lv pc st := by
  subst hn
  intro H locs ls hP hD hS hl
  exact lv_iconst C.1 C.2.1 hdg hv (k H locs ls hP hD hS hl)
theorem V.bipush (C : Cx p s m args meth c cc nL own D tys A) {z : Int} {v : Int32} (hdg : decode cc pc = .ok (.bipush z, 2)) (hv : (Int8.ofInt z).toInt32 = v) (hn : pc + 2 = n) (k : V p l e R s m args below meth c nL D A cells slots Q ws lv n (.int v :: st)) : V p l e R s m args below meth c nL D A cells slots Q ws lv pc st := by
  subst hn
  intro H locs ls hP hD hS hl
  exact lv_bipush C.1 C.2.1 hdg hv (k H locs ls hP hD hS hl)
theorem V.sipush (C : Cx p s m args meth c cc nL own D tys A) {z : Int} {v : Int32} (hdg : decode cc pc = .ok (.sipush z, 3)) (hv : (Int16.ofInt z).toInt32 = v) (hn : pc + 3 = n) (k : V p l e R s m args below meth c nL D A cells slots Q ws lv n (.int v :: st)) : V p l e R s m args below meth c nL D A cells slots Q ws lv pc st := by
  subst hn
  intro H locs ls hP hD hS hl
  exact lv_sipush C.1 C.2.1 hdg hv (k H locs ls hP hD hS hl)
theorem V.lconst (C : Cx p s m args meth c cc nL own D tys A) {z : Fin 2} {v : Int64} (hdg : decode cc pc = .ok (.lconst z, 1)) (hv : Int64.ofNat (z : Nat) = v) (hn : pc + 1 = n) (k : V p l e R s m args below meth c nL D A cells slots Q ws lv n (.long v :: st)) : V p l e R s m args below meth c nL D A cells slots Q ws lv pc st := by
  subst hn
  intro H locs ls hP hD hS hl
  exact lv_lconst C.1 C.2.1 hdg hv (k H locs ls hP hD hS hl)
theorem V.iload_n (C : Cx p s m args meth c cc nL own D tys A) {f : Fin 4} {i j : Nat} {x : Int32} (hdg : decode cc pc = .ok (.iload_n f, 1)) (hi : (f : Nat) = i) (hl : lv[j]? = some (i, .int x)) (hn : pc + 1 = n) (k : V p l e R s m args below meth c nL D A cells slots Q ws lv n (.int x :: st)) : V p l e R s m args below meth c nL D A cells slots Q ws lv pc st := by
  subst hn
  intro H locs ls hP hD hS hl0
  exact lv_iload_n C.1 C.2.1 hdg hi (lv_at hl0 j hl) (k H locs ls hP hD hS hl0)
theorem V.iload (C : Cx p s m args meth c cc nL own D tys A) {i j : Nat} {x : Int32} (hdg : decode cc pc = .ok (.iload i, 2)) (hl : lv[j]? = some (i, .int x)) (hn : pc + 2 = n) (k : V p l e R s m args below meth c nL D A cells slots Q ws lv n (.int x :: st)) : V p l e R s m args below meth c nL D A cells slots Q ws lv pc st := by
  subst hn
  intro H locs ls hP hD hS hl0
  exact lv_iload C.1 C.2.1 hdg (lv_at hl0 j hl) (k H locs ls hP hD hS hl0)
theorem V.lload_n (C : Cx p s m args meth c cc nL own D tys A) {f : Fin 4} {i j : Nat} {x : Int64} (hdg : decode cc pc = .ok (.lload_n f, 1)) (hi : (f : Nat) = i) (hl : lv[j]? = some (i, .long x)) (hn : pc + 1 = n) (k : V p l e R s m args below meth c nL D A cells slots Q ws lv n (.long x :: st)) : V p l e R s m args below meth c nL D A cells slots Q ws lv pc st := by
  subst hn
  intro H locs ls hP hD hS hl0
  exact lv_lload_n C.1 C.2.1 hdg hi (lv_at hl0 j hl) (k H locs ls hP hD hS hl0)
theorem V.lload (C : Cx p s m args meth c cc nL own D tys A) {i j : Nat} {x : Int64} (hdg : decode cc pc = .ok (.lload i, 2)) (hl : lv[j]? = some (i, .long x)) (hn : pc + 2 = n) (k : V p l e R s m args below meth c nL D A cells slots Q ws lv n (.long x :: st)) : V p l e R s m args below meth c nL D A cells slots Q ws lv pc st := by
  subst hn
  intro H locs ls hP hD hS hl0
  exact lv_lload C.1 C.2.1 hdg (lv_at hl0 j hl) (k H locs ls hP hD hS hl0)
theorem V.aload_n (C : Cx p s m args meth c cc nL own D tys A) {f : Fin 4} {i j : Nat} {x : Nat} (hdg : decode cc pc = .ok (.aload_n f, 1)) (hi : (f : Nat) = i) (hl : lv[j]? = some (i, .ref x)) (hn : pc + 1 = n) (k : V p l e R s m args below meth c nL D A cells slots Q ws lv n (.ref x :: st)) : V p l e R s m args below meth c nL D A cells slots Q ws lv pc st := by
  subst hn
  intro H locs ls hP hD hS hl0
  exact lv_aload_n C.1 C.2.1 hdg hi (lv_at hl0 j hl) (k H locs ls hP hD hS hl0)
theorem V.aload (C : Cx p s m args meth c cc nL own D tys A) {i j : Nat} {x : Nat} (hdg : decode cc pc = .ok (.aload i, 2)) (hl : lv[j]? = some (i, .ref x)) (hn : pc + 2 = n) (k : V p l e R s m args below meth c nL D A cells slots Q ws lv n (.ref x :: st)) : V p l e R s m args below meth c nL D A cells slots Q ws lv pc st := by
  subst hn
  intro H locs ls hP hD hS hl0
  exact lv_aload C.1 C.2.1 hdg (lv_at hl0 j hl) (k H locs ls hP hD hS hl0)
theorem V.istore_n (C : Cx p s m args meth c cc nL own D tys A) {f : Fin 4} {i : Nat} {x : Int32} (ks : List Nat) (hdg : decode cc pc = .ok (.istore_n f, 1)) (hi : (f : Nat) = i) (hL : i < nL) (hp : lv_pick ((i, .int x) :: lv.filter (fun q => !(q.1 == i) && !(q.1 + 1 == i && q.2.category == 2))) ks = lv') (hn : pc + 1 = n) (k : V p l e R s m args below meth c nL D A cells slots Q ws lv' n st) : V p l e R s m args below meth c nL D A cells slots Q ws lv pc (.int x :: st) := by
  subst hn
  intro H locs ls hP hD hS hl
  exact lv_istore_n C.1 C.2.1 hdg hi hl hL rfl (fun ls' hl' => k H locs ls' hP hD hS (lv_sub hl' ks hp))
theorem V.istore (C : Cx p s m args meth c cc nL own D tys A) {i : Nat} {x : Int32} (ks : List Nat) (hdg : decode cc pc = .ok (.istore i, 2)) (hL : i < nL) (hp : lv_pick ((i, .int x) :: lv.filter (fun q => !(q.1 == i) && !(q.1 + 1 == i && q.2.category == 2))) ks = lv') (hn : pc + 2 = n) (k : V p l e R s m args below meth c nL D A cells slots Q ws lv' n st) : V p l e R s m args below meth c nL D A cells slots Q ws lv pc (.int x :: st) := by
  subst hn
  intro H locs ls hP hD hS hl
  exact lv_istore C.1 C.2.1 hdg hl hL rfl (fun ls' hl' => k H locs ls' hP hD hS (lv_sub hl' ks hp))
theorem V.astore_n (C : Cx p s m args meth c cc nL own D tys A) {f : Fin 4} {i : Nat} {x : Nat} (ks : List Nat) (hdg : decode cc pc = .ok (.astore_n f, 1)) (hi : (f : Nat) = i) (hL : i < nL) (hp : lv_pick ((i, .ref x) :: lv.filter (fun q => !(q.1 == i) && !(q.1 + 1 == i && q.2.category == 2))) ks = lv') (hn : pc + 1 = n) (k : V p l e R s m args below meth c nL D A cells slots Q ws lv' n st) : V p l e R s m args below meth c nL D A cells slots Q ws lv pc (.ref x :: st) := by
  subst hn
  intro H locs ls hP hD hS hl
  exact lv_astore_n C.1 C.2.1 hdg hi hl hL rfl (fun ls' hl' => k H locs ls' hP hD hS (lv_sub hl' ks hp))
theorem V.astore (C : Cx p s m args meth c cc nL own D tys A) {i : Nat} {x : Nat} (ks : List Nat) (hdg : decode cc pc = .ok (.astore i, 2)) (hL : i < nL) (hp : lv_pick ((i, .ref x) :: lv.filter (fun q => !(q.1 == i) && !(q.1 + 1 == i && q.2.category == 2))) ks = lv') (hn : pc + 2 = n) (k : V p l e R s m args below meth c nL D A cells slots Q ws lv' n st) : V p l e R s m args below meth c nL D A cells slots Q ws lv pc (.ref x :: st) := by
  subst hn
  intro H locs ls hP hD hS hl
  exact lv_astore C.1 C.2.1 hdg hl hL rfl (fun ls' hl' => k H locs ls' hP hD hS (lv_sub hl' ks hp))
theorem V.lstore_n (C : Cx p s m args meth c cc nL own D tys A) {f : Fin 4} {i : Nat} {x : Int64} (ks : List Nat) (hdg : decode cc pc = .ok (.lstore_n f, 1)) (hi : (f : Nat) = i) (hL : i + 1 < nL) (hp : lv_pick ((i, .long x) :: lv.filter (fun q => !(q.1 == i) && (!(q.1 == i + 1) && !(q.1 + 1 == i && q.2.category == 2)))) ks = lv') (hn : pc + 1 = n) (k : V p l e R s m args below meth c nL D A cells slots Q ws lv' n st) : V p l e R s m args below meth c nL D A cells slots Q ws lv pc (.long x :: st) := by
  subst hn
  intro H locs ls hP hD hS hl
  exact lv_lstore_n C.1 C.2.1 hdg hi hl hL rfl (fun ls' hl' => k H locs ls' hP hD hS (lv_sub hl' ks hp))
theorem V.lstore (C : Cx p s m args meth c cc nL own D tys A) {i : Nat} {x : Int64} (ks : List Nat) (hdg : decode cc pc = .ok (.lstore i, 2)) (hL : i + 1 < nL) (hp : lv_pick ((i, .long x) :: lv.filter (fun q => !(q.1 == i) && (!(q.1 == i + 1) && !(q.1 + 1 == i && q.2.category == 2)))) ks = lv') (hn : pc + 2 = n) (k : V p l e R s m args below meth c nL D A cells slots Q ws lv' n st) : V p l e R s m args below meth c nL D A cells slots Q ws lv pc (.long x :: st) := by
  subst hn
  intro H locs ls hP hD hS hl
  exact lv_lstore C.1 C.2.1 hdg hl hL rfl (fun ls' hl' => k H locs ls' hP hD hS (lv_sub hl' ks hp))
theorem V.iinc (C : Cx p s m args meth c cc nL own D tys A) {i j : Nat} {z : Int} {x v : Int32} (ks : List Nat) (hdg : decode cc pc = .ok (.iinc i z, 3)) (hj : lv[j]? = some (i, .int x)) (hv : x + Int32.ofInt z = v) (hL : i < nL) (hp : lv_pick ((i, .int v) :: lv.filter (fun q => !(q.1 == i) && !(q.1 + 1 == i && q.2.category == 2))) ks = lv') (hn : pc + 3 = n) (k : V p l e R s m args below meth c nL D A cells slots Q ws lv' n st) : V p l e R s m args below meth c nL D A cells slots Q ws lv pc st := by
  subst hn
  intro H locs ls hP hD hS hl
  exact lv_iinc C.1 C.2.1 hdg hl hj hv hL rfl (fun ls' hl' => k H locs ls' hP hD hS (lv_sub hl' ks hp))
theorem V.dup (C : Cx p s m args meth c cc nL own D tys A) {v : Value} (hdg : decode cc pc = .ok (.dup, 1)) (hv : v.category = 1) (hn : pc + 1 = n) (k : V p l e R s m args below meth c nL D A cells slots Q ws lv n (v :: v :: st)) : V p l e R s m args below meth c nL D A cells slots Q ws lv pc (v :: st) := by
  subst hn
  intro H locs ls hP hD hS hl
  exact lv_dup C.1 C.2.1 hdg hv (k H locs ls hP hD hS hl)
theorem V.pop (C : Cx p s m args meth c cc nL own D tys A) {v : Value} (hdg : decode cc pc = .ok (.pop, 1)) (hv : v.category = 1) (hn : pc + 1 = n) (k : V p l e R s m args below meth c nL D A cells slots Q ws lv n st) : V p l e R s m args below meth c nL D A cells slots Q ws lv pc (v :: st) := by
  subst hn
  intro H locs ls hP hD hS hl
  exact lv_pop C.1 C.2.1 hdg hv (k H locs ls hP hD hS hl)
theorem V.dup2 (C : Cx p s m args meth c cc nL own D tys A) {v w : Value} (hdg : decode cc pc = .ok (.dup2, 1)) (hv : v.category = 1) (hw : w.category = 1) (hn : pc + 1 = n) (k : V p l e R s m args below meth c nL D A cells slots Q ws lv n (v :: w :: v :: w :: st)) : V p l e R s m args below meth c nL D A cells slots Q ws lv pc (v :: w :: st) := by
  subst hn
  intro H locs ls hP hD hS hl
  exact lv_dup2_11 C.1 C.2.1 hdg hv hw (k H locs ls hP hD hS hl)
theorem V.iadd_n (C : Cx p s m args meth c cc nL own D tys A) {a b : Nat} (hdg : decode cc pc = .ok (.iadd, 1)) (hn : pc + 1 = n) (k : V p l e R s m args below meth c nL D A cells slots Q ws lv n (.int (nI (a + b)) :: st)) : V p l e R s m args below meth c nL D A cells slots Q ws lv pc (.int (nI b) :: .int (nI a) :: st) := by
  subst hn
  intro H locs ls hP hD hS hl
  refine lv_iadd C.1 C.2.1 hdg ?_
  rw [show nI a + nI b = nI (a + b) from nI_add a b]
  exact k H locs ls hP hD hS hl
theorem V.isub_n (C : Cx p s m args meth c cc nL own D tys A) {a b : Nat} (hdg : decode cc pc = .ok (.isub, 1)) (h : b ≤ a) (hn : pc + 1 = n) (k : V p l e R s m args below meth c nL D A cells slots Q ws lv n (.int (nI (a - b)) :: st)) : V p l e R s m args below meth c nL D A cells slots Q ws lv pc (.int (nI b) :: .int (nI a) :: st) := by
  subst hn
  intro H locs ls hP hD hS hl
  refine lv_isub C.1 C.2.1 hdg ?_
  rw [show nI a - nI b = nI (a - b) from pk_sub h]
  exact k H locs ls hP hD hS hl
theorem V.imul_n (C : Cx p s m args meth c cc nL own D tys A) {a b : Nat} (hdg : decode cc pc = .ok (.imul, 1)) (hn : pc + 1 = n) (k : V p l e R s m args below meth c nL D A cells slots Q ws lv n (.int (nI (a * b)) :: st)) : V p l e R s m args below meth c nL D A cells slots Q ws lv pc (.int (nI b) :: .int (nI a) :: st) := by
  subst hn
  intro H locs ls hP hD hS hl
  refine lv_imul C.1 C.2.1 hdg ?_
  rw [show nI a * nI b = nI (a * b) from pk_mul a b]
  exact k H locs ls hP hD hS hl
theorem V.idiv_n (C : Cx p s m args meth c cc nL own D tys A) {a b : Nat} (hdg : decode cc pc = .ok (.idiv, 1)) (ha : a < 2147483648) (h0 : 0 < b) (hb : b < 2147483648) (hn : pc + 1 = n) (k : V p l e R s m args below meth c nL D A cells slots Q ws lv n (.int (nI (a / b)) :: st)) : V p l e R s m args below meth c nL D A cells slots Q ws lv pc (.int (nI b) :: .int (nI a) :: st) := by
  subst hn
  intro H locs ls hP hD hS hl
  refine lv_idiv C.1 C.2.1 hdg (nI_ne0 h0 (by simpa using hb)) ?_
  rw [show nI a / nI b = nI (a / b) from pk_div (by simpa using ha) h0 (by simpa using hb)]
  exact k H locs ls hP hD hS hl
theorem V.irem_n (C : Cx p s m args meth c cc nL own D tys A) {a b : Nat} (hdg : decode cc pc = .ok (.irem, 1)) (ha : a < 2147483648) (h0 : 0 < b) (hb : b < 2147483648) (hn : pc + 1 = n) (k : V p l e R s m args below meth c nL D A cells slots Q ws lv n (.int (nI (a % b)) :: st)) : V p l e R s m args below meth c nL D A cells slots Q ws lv pc (.int (nI b) :: .int (nI a) :: st) := by
  subst hn
  intro H locs ls hP hD hS hl
  refine lv_irem C.1 C.2.1 hdg (nI_ne0 h0 (by simpa using hb)) ?_
  rw [show nI a - nI a / nI b * nI b = nI (a % b) from pk_rem (by simpa using ha) h0 (by simpa using hb)]
  exact k H locs ls hP hD hS hl
theorem V.iadd_z (C : Cx p s m args meth c cc nL own D tys A) {X Y : Int} {x y : Int32} (hdg : decode cc pc = .ok (.iadd, 1)) (ex : x = iI X) (ey : y = iI Y) (hn : pc + 1 = n) (k : V p l e R s m args below meth c nL D A cells slots Q ws lv n (.int (iI (X + Y)) :: st)) : V p l e R s m args below meth c nL D A cells slots Q ws lv pc (.int y :: .int x :: st) := by
  subst hn
  subst ex
  subst ey
  intro H locs ls hP hD hS hl
  refine lv_iadd C.1 C.2.1 hdg ?_
  rw [iI_add]
  exact k H locs ls hP hD hS hl
theorem V.isub_z (C : Cx p s m args meth c cc nL own D tys A) {X Y : Int} {x y : Int32} (hdg : decode cc pc = .ok (.isub, 1)) (ex : x = iI X) (ey : y = iI Y) (hn : pc + 1 = n) (k : V p l e R s m args below meth c nL D A cells slots Q ws lv n (.int (iI (X - Y)) :: st)) : V p l e R s m args below meth c nL D A cells slots Q ws lv pc (.int y :: .int x :: st) := by
  subst hn
  subst ex
  subst ey
  intro H locs ls hP hD hS hl
  refine lv_isub C.1 C.2.1 hdg ?_
  rw [iI_sub]
  exact k H locs ls hP hD hS hl
theorem V.imul_z (C : Cx p s m args meth c cc nL own D tys A) {X Y : Int} {x y : Int32} (hdg : decode cc pc = .ok (.imul, 1)) (ex : x = iI X) (ey : y = iI Y) (hn : pc + 1 = n) (k : V p l e R s m args below meth c nL D A cells slots Q ws lv n (.int (iI (X * Y)) :: st)) : V p l e R s m args below meth c nL D A cells slots Q ws lv pc (.int y :: .int x :: st) := by
  subst hn
  subst ex
  subst ey
  intro H locs ls hP hD hS hl
  refine lv_imul C.1 C.2.1 hdg ?_
  rw [iI_mul]
  exact k H locs ls hP hD hS hl
theorem V.ineg_z (C : Cx p s m args meth c cc nL own D tys A) {X : Int} {x : Int32} (hdg : decode cc pc = .ok (.ineg, 1)) (ex : x = iI X) (hn : pc + 1 = n) (k : V p l e R s m args below meth c nL D A cells slots Q ws lv n (.int (iI (-X)) :: st)) : V p l e R s m args below meth c nL D A cells slots Q ws lv pc (.int x :: st) := by
  subst hn
  subst ex
  intro H locs ls hP hD hS hl
  refine lv_ineg C.1 C.2.1 hdg ?_
  rw [iI_neg]
  exact k H locs ls hP hD hS hl
theorem V.iadd_r (C : Cx p s m args meth c cc nL own D tys A) {x y v : Int32} (hdg : decode cc pc = .ok (.iadd, 1)) (hv : x + y = v) (hn : pc + 1 = n) (k : V p l e R s m args below meth c nL D A cells slots Q ws lv n (.int v :: st)) : V p l e R s m args below meth c nL D A cells slots Q ws lv pc (.int y :: .int x :: st) := by
  subst hn
  subst hv
  intro H locs ls hP hD hS hl
  exact lv_iadd C.1 C.2.1 hdg (k H locs ls hP hD hS hl)
theorem V.isub_r (C : Cx p s m args meth c cc nL own D tys A) {x y v : Int32} (hdg : decode cc pc = .ok (.isub, 1)) (hv : x - y = v) (hn : pc + 1 = n) (k : V p l e R s m args below meth c nL D A cells slots Q ws lv n (.int v :: st)) : V p l e R s m args below meth c nL D A cells slots Q ws lv pc (.int y :: .int x :: st) := by
  subst hn
  subst hv
  intro H locs ls hP hD hS hl
  exact lv_isub C.1 C.2.1 hdg (k H locs ls hP hD hS hl)
theorem V.iand_r (C : Cx p s m args meth c cc nL own D tys A) {x y v : Int32} (hdg : decode cc pc = .ok (.iand, 1)) (hv : x &&& y = v) (hn : pc + 1 = n) (k : V p l e R s m args below meth c nL D A cells slots Q ws lv n (.int v :: st)) : V p l e R s m args below meth c nL D A cells slots Q ws lv pc (.int y :: .int x :: st) := by
  subst hn
  subst hv
  intro H locs ls hP hD hS hl
  exact lv_iand C.1 C.2.1 hdg (k H locs ls hP hD hS hl)
theorem V.iushr_r (C : Cx p s m args meth c cc nL own D tys A) {x y v : Int32} (hdg : decode cc pc = .ok (.iushr, 1)) (hv : (x.toUInt32 >>> (y.toUInt32 &&& Int32.toUInt32 31)).toInt32 = v) (hn : pc + 1 = n) (k : V p l e R s m args below meth c nL D A cells slots Q ws lv n (.int v :: st)) : V p l e R s m args below meth c nL D A cells slots Q ws lv pc (.int y :: .int x :: st) := by
  subst hn
  subst hv
  intro H locs ls hP hD hS hl
  exact lv_iushr C.1 C.2.1 hdg rfl (k H locs ls hP hD hS hl)
theorem V.i2c_r (C : Cx p s m args meth c cc nL own D tys A) {x v : Int32} (hdg : decode cc pc = .ok (.i2c, 1)) (hv : (x.toUInt32 % 65536).toInt32 = v) (hn : pc + 1 = n) (k : V p l e R s m args below meth c nL D A cells slots Q ws lv n (.int v :: st)) : V p l e R s m args below meth c nL D A cells slots Q ws lv pc (.int x :: st) := by
  subst hn
  subst hv
  intro H locs ls hP hD hS hl
  exact lv_i2c C.1 C.2.1 hdg rfl (k H locs ls hP hD hS hl)
theorem V.i2c_n (C : Cx p s m args meth c cc nL own D tys A) {a : Nat} (h : a < 65536) (hdg : decode cc pc = .ok (.i2c, 1)) (hn : pc + 1 = n) (k : V p l e R s m args below meth c nL D A cells slots Q ws lv n (.int (nI a) :: st)) : V p l e R s m args below meth c nL D A cells slots Q ws lv pc (.int (nI a) :: st) := by
  exact V.i2c_r C hdg (by rw [pk_char, pk_tn (by omega), Nat.mod_eq_of_lt h]) hn k
theorem V.join (C : Cx p s m args meth c cc nL own D tys A) {lv9 : List (Nat × Value)} {ws9 : va_W} {n9 : Nat} {st9 : List Value} (k : V p l e R s m args below meth c nL D A cells slots Q ws9 lv9 n9 st9) (f : V p l e R s m args below meth c nL D A cells slots Q ws9 lv9 n9 st9 → V p l e R s m args below meth c nL D A cells slots Q ws lv pc st) : V p l e R s m args below meth c nL D A cells slots Q ws lv pc st := by
  exact f k
theorem V.lcmp (C : Cx p s m args meth c cc nL own D tys A) {x y : Int64} (hdg : decode cc pc = .ok (.lcmp, 1)) (hn : pc + 1 = n) (k : V p l e R s m args below meth c nL D A cells slots Q ws lv n (.int (lg_cmp x y) :: st)) : V p l e R s m args below meth c nL D A cells slots Q ws lv pc (.long y :: .long x :: st) := by
  subst hn
  intro H locs ls hP hD hS hl
  exact W.lcmp C.1 C.2.1 hdg (k H locs ls hP hD hS hl)
theorem V.ladd (C : Cx p s m args meth c cc nL own D tys A) {x y v : Int64} (hdg : decode cc pc = .ok (.ladd, 1)) (hv : x + y = v) (hn : pc + 1 = n) (k : V p l e R s m args below meth c nL D A cells slots Q ws lv n (.long v :: st)) : V p l e R s m args below meth c nL D A cells slots Q ws lv pc (.long y :: .long x :: st) := by
  subst hn
  subst hv
  intro H locs ls hP hD hS hl
  exact lv_ladd C.1 C.2.1 hdg (k H locs ls hP hD hS hl)
theorem V.ldcS (C : Cx p s m args meth c cc nL own D tys A) {tx : String} {idx i0 : Nat} (hw : (own, idx, tx, i0) ∈ sRf) (hdg : decode cc pc = .ok (.ldc idx, 2)) (hn : pc + 2 = n) (k : V p l e R s m args below meth c nL D A cells slots Q ws lv n (.ref (tys.2 i0) :: st)) : V p l e R s m args below meth c nL D A cells slots Q ws lv pc st := by
  subst hn
  intro H locs ls hP hD hS hl
  exact va_ldcS C.1 C.2.1 C.2.2.2.1 (C.2.2.2.2.2.2.2.2.2.1 _ hw) hdg (k H locs ls hP hD hS hl)
theorem strRecv (C : Cx p s m args meth c cc nL own D tys A) {i : Nat} (hi : i < nSt) : ∀ (H : Heap) (locs : List Loc), va_S A s.heap H locs → ∃ cell : Cell, H[tys.2 i]? = some cell ∧ cell.vm.isStatics = false ∧ s.vm.findClass "java/lang/String" = some cell.cls := fun H locs hS => vk_recv C.2.2.2.2.2.2.2.2.2.2.1 hi hS
theorem V.getCS (C : Cx p s m args meth c cc nL own D tys A) {idx : Nat} (hw : .fieldLink own idx "java/lang/String" "COMPACT_STRINGS" "Z" ∈ wT) (hdg : decode cc pc = .ok (.getstatic idx, 3)) (hn : pc + 3 = n) (k : V p l e R s m args below meth c nL D A cells slots Q ws lv n (.int (nI 1) :: st)) : V p l e R s m args below meth c nL D A cells slots Q ws lv pc st := by
  subst hn
  intro H locs ls hP hD hS hl
  exact va_gets C.1 C.2.1 C.2.2.2.2.2.2.2.2.2.2.2.1 hS C.2.2.2.1 (C.2.2.2.2.1 _ hw) (fun _ h => h) hdg (k H locs ls hP hD hS hl)
theorem V.getSF (C : Cx p s m args meth c cc nL own D tys A) {idx : Nat} (hw : .fieldLink own idx "jdk/internal/util/Preconditions" "SIOOBE_FORMATTER" "Ljava/util/function/BiFunction;" ∈ wT) (hdg : decode cc pc = .ok (.getstatic idx, 3)) (hn : pc + 3 = n) (k : ∀ v : Value, (v = .null ∨ ∃ a : Nat, v = .ref a) → V p l e R s m args below meth c nL D A cells slots Q ws lv n (v :: st)) : V p l e R s m args below meth c nL D A cells slots Q ws lv pc st := by
  subst hn
  obtain ⟨v, h1, h2⟩ := C.2.2.2.2.2.2.2.2.2.2.2.2
  intro H locs ls hP hD hS hl
  exact va_gets C.1 C.2.1 h2 hS C.2.2.2.1 (C.2.2.2.2.1 _ hw) (fun _ h => h) hdg (k v h1 H locs ls hP hD hS hl)
theorem V.getKc (C : Cx p s m args meth c cc nL own D tys A) {idx i : Nat} (hi : i < nSt) (hw : .fieldLink own idx "java/lang/String" "coder" "B" ∈ wT) (hdg : decode cc pc = .ok (.getfield idx, 3)) (hn : pc + 3 = n) (k : V p l e R s m args below meth c nL D A cells slots Q ws lv n (.int (nI 0) :: st)) : V p l e R s m args below meth c nL D A cells slots Q ws lv pc (.ref (tys.2 i) :: st) := by
  subst hn
  intro H locs ls hP hD hS hl
  exact vk_getf C.1 C.2.1 (C.2.2.2.2.2.2.2.2.2.2.1.1 i hi).2.1 hS C.2.2.2.1 (C.2.2.2.2.1 _ hw) (fun _ h => h) hdg (k H locs ls hP hD hS hl)
theorem V.getKv (C : Cx p s m args meth c cc nL own D tys A) {idx i : Nat} (hi : i < nSt) (hw : .fieldLink own idx "java/lang/String" "value" "[B" ∈ wT) (hdg : decode cc pc = .ok (.getfield idx, 3)) (hn : pc + 3 = n) (k : V p l e R s m args below meth c nL D A cells slots Q ws lv n (.ref (tys.2 (i + nSt)) :: st)) : V p l e R s m args below meth c nL D A cells slots Q ws lv pc (.ref (tys.2 i) :: st) := by
  subst hn
  intro H locs ls hP hD hS hl
  exact vk_getf C.1 C.2.1 (C.2.2.2.2.2.2.2.2.2.2.1.1 i hi).2.2.1 hS C.2.2.2.1 (C.2.2.2.2.1 _ hw) (fun _ h => h) hdg (k H locs ls hP hD hS hl)
theorem V.tlen (C : Cx p s m args meth c cc nL own D tys A) {i : Nat} (hi : i < nSt) (hdg : decode cc pc = .ok (.arraylength, 1)) (hn : pc + 1 = n) (k : V p l e R s m args below meth c nL D A cells slots Q ws lv n (.int (nI (sln i)) :: st)) : V p l e R s m args below meth c nL D A cells slots Q ws lv pc (.ref (tys.2 (i + nSt)) :: st) := by
  subst hn
  intro H locs ls hP hD hS hl
  exact va_tlen C.1 C.2.1 (C.2.2.2.2.2.2.2.2.2.2.1.1 i hi).2.2.2 hS rfl hdg (k H locs ls hP hD hS hl)
theorem V.tb (C : Cx p s m args meth c cc nL own D tys A) {i j : Nat} (hi : i < nSt) (hj : j < sln i) (hdg : decode cc pc = .ok (.baload, 1)) (hn : pc + 1 = n) (k : V p l e R s m args below meth c nL D A cells slots Q ws lv n (.int ((sByt.getD i []).getD j 0) :: st)) : V p l e R s m args below meth c nL D A cells slots Q ws lv pc (.int (nI j) :: .ref (tys.2 (i + nSt)) :: st) := by
  subst hn
  intro H locs ls hP hD hS hl
  exact va_tb C.1 C.2.1 (C.2.2.2.2.2.2.2.2.2.2.1.1 i hi).2.2.2 hS (vp_in_nI hj (Nat.lt_of_le_of_lt (sln_le i) (by decide))) (by rw [nI_clamp (Nat.lt_trans hj (Nat.lt_of_le_of_lt (sln_le i) (by decide)))]) hdg (k H locs ls hP hD hS hl)
theorem V.ishr_r (C : Cx p s m args meth c cc nL own D tys A) {x y v : Int32} (hdg : decode cc pc = .ok (.ishr, 1)) (hv : x >>> (y &&& 31) = v) (hn : pc + 1 = n) (k : V p l e R s m args below meth c nL D A cells slots Q ws lv n (.int v :: st)) : V p l e R s m args below meth c nL D A cells slots Q ws lv pc (.int y :: .int x :: st) := by
  subst hn
  subst hv
  intro H locs ls hP hD hS hl
  exact lv_ishr C.1 C.2.1 hdg (k H locs ls hP hD hS hl)
theorem V.ldc2 (C : Cx p s m args meth c cc nL own D tys A) {v : Int64} {idx : Nat} (hw : .constantLong own idx v ∈ wT) (hdg : decode cc pc = .ok (.ldc2_w idx, 3)) (hn : pc + 3 = n) (k : V p l e R s m args below meth c nL D A cells slots Q ws lv n (.long v :: st)) : V p l e R s m args below meth c nL D A cells slots Q ws lv pc st := by
  subst hn
  intro H locs ls hP hD hS hl
  exact lv_ldc2 C.1 C.2.1 C.2.2.2.1 (C.2.2.2.2.1 _ hw) hdg (k H locs ls hP hD hS hl)
theorem V.ifl_lt (C : Cx p s m args meth c cc nL own D tys A) {X Y : Int} {x y : Int64} {off : Int} {tgt : Nat} (ex : x.toInt = X) (ey : y.toInt = Y) (hdg : decode cc pc = .ok (.ifCond .lt off, 3)) (ht : (pc : Int) + off = (tgt : Int)) (hn : pc + 3 = n) (kt : X < Y → V p l e R s m args below meth c nL D A cells slots Q ws lv tgt st) (kf : Y ≤ X → V p l e R s m args below meth c nL D A cells slots Q ws lv n st) : V p l e R s m args below meth c nL D A cells slots Q ws lv pc (.int (lg_cmp x y) :: st) := by
  subst hn
  intro H locs ls hP hD hS hl
  have h9 : X < Y ↔ lg_cmp x y < 0 := by rw [← ex, ← ey]; exact (Int64.lt_iff_toInt_lt.symm.trans (lg_cmp_lt x y).symm)
  exact lv_if_lt C.1 C.2.1 hdg ht (fun c9 => kt (h9.mpr c9) H locs ls hP hD hS hl) (fun c9 => kf (Int.not_lt.mp (fun q => c9 (h9.mp q))) H locs ls hP hD hS hl)
theorem V.ifl_ge (C : Cx p s m args meth c cc nL own D tys A) {X Y : Int} {x y : Int64} {off : Int} {tgt : Nat} (ex : x.toInt = X) (ey : y.toInt = Y) (hdg : decode cc pc = .ok (.ifCond .ge off, 3)) (ht : (pc : Int) + off = (tgt : Int)) (hn : pc + 3 = n) (kt : Y ≤ X → V p l e R s m args below meth c nL D A cells slots Q ws lv tgt st) (kf : X < Y → V p l e R s m args below meth c nL D A cells slots Q ws lv n st) : V p l e R s m args below meth c nL D A cells slots Q ws lv pc (.int (lg_cmp x y) :: st) := by
  subst hn
  intro H locs ls hP hD hS hl
  have h9 : Y ≤ X ↔ 0 ≤ lg_cmp x y := by rw [← ex, ← ey]; exact (Int64.le_iff_toInt_le.symm.trans (lg_cmp_ge x y).symm)
  exact lv_if_ge C.1 C.2.1 hdg ht (fun c9 => kt (h9.mpr c9) H locs ls hP hD hS hl) (fun c9 => kf (Int.not_le.mp (fun q => c9 (h9.mp q))) H locs ls hP hD hS hl)
theorem V.ifl_gt (C : Cx p s m args meth c cc nL own D tys A) {X Y : Int} {x y : Int64} {off : Int} {tgt : Nat} (ex : x.toInt = X) (ey : y.toInt = Y) (hdg : decode cc pc = .ok (.ifCond .gt off, 3)) (ht : (pc : Int) + off = (tgt : Int)) (hn : pc + 3 = n) (kt : Y < X → V p l e R s m args below meth c nL D A cells slots Q ws lv tgt st) (kf : X ≤ Y → V p l e R s m args below meth c nL D A cells slots Q ws lv n st) : V p l e R s m args below meth c nL D A cells slots Q ws lv pc (.int (lg_cmp x y) :: st) := by
  subst hn
  intro H locs ls hP hD hS hl
  have h9 : Y < X ↔ 0 < lg_cmp x y := by rw [← ex, ← ey]; exact (Int64.lt_iff_toInt_lt.symm.trans (lg_cmp_gt x y).symm)
  exact lv_if_gt C.1 C.2.1 hdg ht (fun c9 => kt (h9.mpr c9) H locs ls hP hD hS hl) (fun c9 => kf (Int.not_lt.mp (fun q => c9 (h9.mp q))) H locs ls hP hD hS hl)
theorem V.ifl_le (C : Cx p s m args meth c cc nL own D tys A) {X Y : Int} {x y : Int64} {off : Int} {tgt : Nat} (ex : x.toInt = X) (ey : y.toInt = Y) (hdg : decode cc pc = .ok (.ifCond .le off, 3)) (ht : (pc : Int) + off = (tgt : Int)) (hn : pc + 3 = n) (kt : X ≤ Y → V p l e R s m args below meth c nL D A cells slots Q ws lv tgt st) (kf : Y < X → V p l e R s m args below meth c nL D A cells slots Q ws lv n st) : V p l e R s m args below meth c nL D A cells slots Q ws lv pc (.int (lg_cmp x y) :: st) := by
  subst hn
  intro H locs ls hP hD hS hl
  have h9 : X ≤ Y ↔ lg_cmp x y ≤ 0 := by rw [← ex, ← ey]; exact (Int64.le_iff_toInt_le.symm.trans (lg_cmp_le x y).symm)
  exact lv_if_le C.1 C.2.1 hdg ht (fun c9 => kt (h9.mpr c9) H locs ls hP hD hS hl) (fun c9 => kf (Int.not_le.mp (fun q => c9 (h9.mp q))) H locs ls hP hD hS hl)
theorem V.cv (C : Cx p s m args meth c cc nL own D tys A) {x y : Int32} (h : x = y) (k : V p l e R s m args below meth c nL D A cells slots Q ws lv pc (.int y :: st)) : V p l e R s m args below meth c nL D A cells slots Q ws lv pc (.int x :: st) := by
  subst h
  exact k
theorem V.stk (C : Cx p s m args meth c cc nL own D tys A) {st' : List Value} (h : st = st') (k : V p l e R s m args below meth c nL D A cells slots Q ws lv pc st') : V p l e R s m args below meth c nL D A cells slots Q ws lv pc st := by
  subst h
  exact k
theorem V.wo (C : Cx p s m args meth c cc nL own D tys A) (h : ws = ws') (k : V p l e R s m args below meth c nL D A cells slots Q ws' lv pc st) : V p l e R s m args below meth c nL D A cells slots Q ws lv pc st := by
  subst h
  exact k
theorem V.lsub (C : Cx p s m args meth c cc nL own D tys A) (ks : List Nat) (h : lv_pick lv ks = lv') (k : V p l e R s m args below meth c nL D A cells slots Q ws lv' pc st) : V p l e R s m args below meth c nL D A cells slots Q ws lv pc st := by
  intro H locs ls hP hD hS hl
  exact k H locs ls hP hD hS (lv_sub hl ks h)
theorem V.ind1 (C : Cx p s m args meth c cc nL own D tys A) {A1 : Type} (Wf : A1 → va_W) (Lf : A1 → List (Nat × Value)) (I : A1 → Prop) (μ : A1 → Nat) (z1 : A1) (h0 : I z1) (hw : ws = Wf z1) (hl : lv = Lf z1) (step : ∀ (x1 : A1), I x1 → (∀ (y1 : A1), I y1 → μ y1 < μ x1 → V p l e R s m args below meth c nL D A cells slots Q (Wf y1) (Lf y1) pc st) → V p l e R s m args below meth c nL D A cells slots Q (Wf x1) (Lf x1) pc st) : V p l e R s m args below meth c nL D A cells slots Q ws lv pc st := by
  subst hw
  subst hl
  have key : ∀ (k : Nat) (x1 : A1), μ x1 < k → I x1 → V p l e R s m args below meth c nL D A cells slots Q (Wf x1) (Lf x1) pc st := by
    intro k
    induction k with
    | zero => intro x1 h _; exact absurd h (Nat.not_lt_zero _)
    | succ k ih => intro x1 h hI; exact step x1 hI (fun y1 hJ hm => ih y1 (Nat.lt_of_lt_of_le hm (Nat.le_of_lt_succ h)) hJ)
  exact key (μ z1 + 1) z1 (Nat.lt_succ_self _) h0
theorem V.ind2 (C : Cx p s m args meth c cc nL own D tys A) {A1 A2 : Type} (Wf : A1 → A2 → va_W) (Lf : A1 → A2 → List (Nat × Value)) (I : A1 → A2 → Prop) (μ : A1 → A2 → Nat) (z1 : A1) (z2 : A2) (h0 : I z1 z2) (hw : ws = Wf z1 z2) (hl : lv = Lf z1 z2) (step : ∀ (x1 : A1) (x2 : A2), I x1 x2 → (∀ (y1 : A1) (y2 : A2), I y1 y2 → μ y1 y2 < μ x1 x2 → V p l e R s m args below meth c nL D A cells slots Q (Wf y1 y2) (Lf y1 y2) pc st) → V p l e R s m args below meth c nL D A cells slots Q (Wf x1 x2) (Lf x1 x2) pc st) : V p l e R s m args below meth c nL D A cells slots Q ws lv pc st := by
  subst hw
  subst hl
  have key : ∀ (k : Nat) (x1 : A1) (x2 : A2), μ x1 x2 < k → I x1 x2 → V p l e R s m args below meth c nL D A cells slots Q (Wf x1 x2) (Lf x1 x2) pc st := by
    intro k
    induction k with
    | zero => intro x1 x2 h _; exact absurd h (Nat.not_lt_zero _)
    | succ k ih => intro x1 x2 h hI; exact step x1 x2 hI (fun y1 y2 hJ hm => ih y1 y2 (Nat.lt_of_lt_of_le hm (Nat.le_of_lt_succ h)) hJ)
  exact key (μ z1 z2 + 1) z1 z2 (Nat.lt_succ_self _) h0
theorem V.ind3 (C : Cx p s m args meth c cc nL own D tys A) {A1 A2 A3 : Type} (Wf : A1 → A2 → A3 → va_W) (Lf : A1 → A2 → A3 → List (Nat × Value)) (I : A1 → A2 → A3 → Prop) (μ : A1 → A2 → A3 → Nat) (z1 : A1) (z2 : A2) (z3 : A3) (h0 : I z1 z2 z3) (hw : ws = Wf z1 z2 z3) (hl : lv = Lf z1 z2 z3) (step : ∀ (x1 : A1) (x2 : A2) (x3 : A3), I x1 x2 x3 → (∀ (y1 : A1) (y2 : A2) (y3 : A3), I y1 y2 y3 → μ y1 y2 y3 < μ x1 x2 x3 → V p l e R s m args below meth c nL D A cells slots Q (Wf y1 y2 y3) (Lf y1 y2 y3) pc st) → V p l e R s m args below meth c nL D A cells slots Q (Wf x1 x2 x3) (Lf x1 x2 x3) pc st) : V p l e R s m args below meth c nL D A cells slots Q ws lv pc st := by
  subst hw
  subst hl
  have key : ∀ (k : Nat) (x1 : A1) (x2 : A2) (x3 : A3), μ x1 x2 x3 < k → I x1 x2 x3 → V p l e R s m args below meth c nL D A cells slots Q (Wf x1 x2 x3) (Lf x1 x2 x3) pc st := by
    intro k
    induction k with
    | zero => intro x1 x2 x3 h _; exact absurd h (Nat.not_lt_zero _)
    | succ k ih => intro x1 x2 x3 h hI; exact step x1 x2 x3 hI (fun y1 y2 y3 hJ hm => ih y1 y2 y3 (Nat.lt_of_lt_of_le hm (Nat.le_of_lt_succ h)) hJ)
  exact key (μ z1 z2 z3 + 1) z1 z2 z3 (Nat.lt_succ_self _) h0
theorem V.ind4 (C : Cx p s m args meth c cc nL own D tys A) {A1 A2 A3 A4 : Type} (Wf : A1 → A2 → A3 → A4 → va_W) (Lf : A1 → A2 → A3 → A4 → List (Nat × Value)) (I : A1 → A2 → A3 → A4 → Prop) (μ : A1 → A2 → A3 → A4 → Nat) (z1 : A1) (z2 : A2) (z3 : A3) (z4 : A4) (h0 : I z1 z2 z3 z4) (hw : ws = Wf z1 z2 z3 z4) (hl : lv = Lf z1 z2 z3 z4) (step : ∀ (x1 : A1) (x2 : A2) (x3 : A3) (x4 : A4), I x1 x2 x3 x4 → (∀ (y1 : A1) (y2 : A2) (y3 : A3) (y4 : A4), I y1 y2 y3 y4 → μ y1 y2 y3 y4 < μ x1 x2 x3 x4 → V p l e R s m args below meth c nL D A cells slots Q (Wf y1 y2 y3 y4) (Lf y1 y2 y3 y4) pc st) → V p l e R s m args below meth c nL D A cells slots Q (Wf x1 x2 x3 x4) (Lf x1 x2 x3 x4) pc st) : V p l e R s m args below meth c nL D A cells slots Q ws lv pc st := by
  subst hw
  subst hl
  have key : ∀ (k : Nat) (x1 : A1) (x2 : A2) (x3 : A3) (x4 : A4), μ x1 x2 x3 x4 < k → I x1 x2 x3 x4 → V p l e R s m args below meth c nL D A cells slots Q (Wf x1 x2 x3 x4) (Lf x1 x2 x3 x4) pc st := by
    intro k
    induction k with
    | zero => intro x1 x2 x3 x4 h _; exact absurd h (Nat.not_lt_zero _)
    | succ k ih => intro x1 x2 x3 x4 h hI; exact step x1 x2 x3 x4 hI (fun y1 y2 y3 y4 hJ hm => ih y1 y2 y3 y4 (Nat.lt_of_lt_of_le hm (Nat.le_of_lt_succ h)) hJ)
  exact key (μ z1 z2 z3 z4 + 1) z1 z2 z3 z4 (Nat.lt_succ_self _) h0
theorem V.ind5 (C : Cx p s m args meth c cc nL own D tys A) {A1 A2 A3 A4 A5 : Type} (Wf : A1 → A2 → A3 → A4 → A5 → va_W) (Lf : A1 → A2 → A3 → A4 → A5 → List (Nat × Value)) (I : A1 → A2 → A3 → A4 → A5 → Prop) (μ : A1 → A2 → A3 → A4 → A5 → Nat) (z1 : A1) (z2 : A2) (z3 : A3) (z4 : A4) (z5 : A5) (h0 : I z1 z2 z3 z4 z5) (hw : ws = Wf z1 z2 z3 z4 z5) (hl : lv = Lf z1 z2 z3 z4 z5) (step : ∀ (x1 : A1) (x2 : A2) (x3 : A3) (x4 : A4) (x5 : A5), I x1 x2 x3 x4 x5 → (∀ (y1 : A1) (y2 : A2) (y3 : A3) (y4 : A4) (y5 : A5), I y1 y2 y3 y4 y5 → μ y1 y2 y3 y4 y5 < μ x1 x2 x3 x4 x5 → V p l e R s m args below meth c nL D A cells slots Q (Wf y1 y2 y3 y4 y5) (Lf y1 y2 y3 y4 y5) pc st) → V p l e R s m args below meth c nL D A cells slots Q (Wf x1 x2 x3 x4 x5) (Lf x1 x2 x3 x4 x5) pc st) : V p l e R s m args below meth c nL D A cells slots Q ws lv pc st := by
  subst hw
  subst hl
  have key : ∀ (k : Nat) (x1 : A1) (x2 : A2) (x3 : A3) (x4 : A4) (x5 : A5), μ x1 x2 x3 x4 x5 < k → I x1 x2 x3 x4 x5 → V p l e R s m args below meth c nL D A cells slots Q (Wf x1 x2 x3 x4 x5) (Lf x1 x2 x3 x4 x5) pc st := by
    intro k
    induction k with
    | zero => intro x1 x2 x3 x4 x5 h _; exact absurd h (Nat.not_lt_zero _)
    | succ k ih => intro x1 x2 x3 x4 x5 h hI; exact step x1 x2 x3 x4 x5 hI (fun y1 y2 y3 y4 y5 hJ hm => ih y1 y2 y3 y4 y5 (Nat.lt_of_lt_of_le hm (Nat.le_of_lt_succ h)) hJ)
  exact key (μ z1 z2 z3 z4 z5 + 1) z1 z2 z3 z4 z5 (Nat.lt_succ_self _) h0
theorem V.ind6 (C : Cx p s m args meth c cc nL own D tys A) {A1 A2 A3 A4 A5 A6 : Type} (Wf : A1 → A2 → A3 → A4 → A5 → A6 → va_W) (Lf : A1 → A2 → A3 → A4 → A5 → A6 → List (Nat × Value)) (I : A1 → A2 → A3 → A4 → A5 → A6 → Prop) (μ : A1 → A2 → A3 → A4 → A5 → A6 → Nat) (z1 : A1) (z2 : A2) (z3 : A3) (z4 : A4) (z5 : A5) (z6 : A6) (h0 : I z1 z2 z3 z4 z5 z6) (hw : ws = Wf z1 z2 z3 z4 z5 z6) (hl : lv = Lf z1 z2 z3 z4 z5 z6) (step : ∀ (x1 : A1) (x2 : A2) (x3 : A3) (x4 : A4) (x5 : A5) (x6 : A6), I x1 x2 x3 x4 x5 x6 → (∀ (y1 : A1) (y2 : A2) (y3 : A3) (y4 : A4) (y5 : A5) (y6 : A6), I y1 y2 y3 y4 y5 y6 → μ y1 y2 y3 y4 y5 y6 < μ x1 x2 x3 x4 x5 x6 → V p l e R s m args below meth c nL D A cells slots Q (Wf y1 y2 y3 y4 y5 y6) (Lf y1 y2 y3 y4 y5 y6) pc st) → V p l e R s m args below meth c nL D A cells slots Q (Wf x1 x2 x3 x4 x5 x6) (Lf x1 x2 x3 x4 x5 x6) pc st) : V p l e R s m args below meth c nL D A cells slots Q ws lv pc st := by
  subst hw
  subst hl
  have key : ∀ (k : Nat) (x1 : A1) (x2 : A2) (x3 : A3) (x4 : A4) (x5 : A5) (x6 : A6), μ x1 x2 x3 x4 x5 x6 < k → I x1 x2 x3 x4 x5 x6 → V p l e R s m args below meth c nL D A cells slots Q (Wf x1 x2 x3 x4 x5 x6) (Lf x1 x2 x3 x4 x5 x6) pc st := by
    intro k
    induction k with
    | zero => intro x1 x2 x3 x4 x5 x6 h _; exact absurd h (Nat.not_lt_zero _)
    | succ k ih => intro x1 x2 x3 x4 x5 x6 h hI; exact step x1 x2 x3 x4 x5 x6 hI (fun y1 y2 y3 y4 y5 y6 hJ hm => ih y1 y2 y3 y4 y5 y6 (Nat.lt_of_lt_of_le hm (Nat.le_of_lt_succ h)) hJ)
  exact key (μ z1 z2 z3 z4 z5 z6 + 1) z1 z2 z3 z4 z5 z6 (Nat.lt_succ_self _) h0
theorem V.ind7 (C : Cx p s m args meth c cc nL own D tys A) {A1 A2 A3 A4 A5 A6 A7 : Type} (Wf : A1 → A2 → A3 → A4 → A5 → A6 → A7 → va_W) (Lf : A1 → A2 → A3 → A4 → A5 → A6 → A7 → List (Nat × Value)) (I : A1 → A2 → A3 → A4 → A5 → A6 → A7 → Prop) (μ : A1 → A2 → A3 → A4 → A5 → A6 → A7 → Nat) (z1 : A1) (z2 : A2) (z3 : A3) (z4 : A4) (z5 : A5) (z6 : A6) (z7 : A7) (h0 : I z1 z2 z3 z4 z5 z6 z7) (hw : ws = Wf z1 z2 z3 z4 z5 z6 z7) (hl : lv = Lf z1 z2 z3 z4 z5 z6 z7) (step : ∀ (x1 : A1) (x2 : A2) (x3 : A3) (x4 : A4) (x5 : A5) (x6 : A6) (x7 : A7), I x1 x2 x3 x4 x5 x6 x7 → (∀ (y1 : A1) (y2 : A2) (y3 : A3) (y4 : A4) (y5 : A5) (y6 : A6) (y7 : A7), I y1 y2 y3 y4 y5 y6 y7 → μ y1 y2 y3 y4 y5 y6 y7 < μ x1 x2 x3 x4 x5 x6 x7 → V p l e R s m args below meth c nL D A cells slots Q (Wf y1 y2 y3 y4 y5 y6 y7) (Lf y1 y2 y3 y4 y5 y6 y7) pc st) → V p l e R s m args below meth c nL D A cells slots Q (Wf x1 x2 x3 x4 x5 x6 x7) (Lf x1 x2 x3 x4 x5 x6 x7) pc st) : V p l e R s m args below meth c nL D A cells slots Q ws lv pc st := by
  subst hw
  subst hl
  have key : ∀ (k : Nat) (x1 : A1) (x2 : A2) (x3 : A3) (x4 : A4) (x5 : A5) (x6 : A6) (x7 : A7), μ x1 x2 x3 x4 x5 x6 x7 < k → I x1 x2 x3 x4 x5 x6 x7 → V p l e R s m args below meth c nL D A cells slots Q (Wf x1 x2 x3 x4 x5 x6 x7) (Lf x1 x2 x3 x4 x5 x6 x7) pc st := by
    intro k
    induction k with
    | zero => intro x1 x2 x3 x4 x5 x6 x7 h _; exact absurd h (Nat.not_lt_zero _)
    | succ k ih => intro x1 x2 x3 x4 x5 x6 x7 h hI; exact step x1 x2 x3 x4 x5 x6 x7 hI (fun y1 y2 y3 y4 y5 y6 y7 hJ hm => ih y1 y2 y3 y4 y5 y6 y7 (Nat.lt_of_lt_of_le hm (Nat.le_of_lt_succ h)) hJ)
  exact key (μ z1 z2 z3 z4 z5 z6 z7 + 1) z1 z2 z3 z4 z5 z6 z7 (Nat.lt_succ_self _) h0
theorem V.ind8 (C : Cx p s m args meth c cc nL own D tys A) {A1 A2 A3 A4 A5 A6 A7 A8 : Type} (Wf : A1 → A2 → A3 → A4 → A5 → A6 → A7 → A8 → va_W) (Lf : A1 → A2 → A3 → A4 → A5 → A6 → A7 → A8 → List (Nat × Value)) (I : A1 → A2 → A3 → A4 → A5 → A6 → A7 → A8 → Prop) (μ : A1 → A2 → A3 → A4 → A5 → A6 → A7 → A8 → Nat) (z1 : A1) (z2 : A2) (z3 : A3) (z4 : A4) (z5 : A5) (z6 : A6) (z7 : A7) (z8 : A8) (h0 : I z1 z2 z3 z4 z5 z6 z7 z8) (hw : ws = Wf z1 z2 z3 z4 z5 z6 z7 z8) (hl : lv = Lf z1 z2 z3 z4 z5 z6 z7 z8) (step : ∀ (x1 : A1) (x2 : A2) (x3 : A3) (x4 : A4) (x5 : A5) (x6 : A6) (x7 : A7) (x8 : A8), I x1 x2 x3 x4 x5 x6 x7 x8 → (∀ (y1 : A1) (y2 : A2) (y3 : A3) (y4 : A4) (y5 : A5) (y6 : A6) (y7 : A7) (y8 : A8), I y1 y2 y3 y4 y5 y6 y7 y8 → μ y1 y2 y3 y4 y5 y6 y7 y8 < μ x1 x2 x3 x4 x5 x6 x7 x8 → V p l e R s m args below meth c nL D A cells slots Q (Wf y1 y2 y3 y4 y5 y6 y7 y8) (Lf y1 y2 y3 y4 y5 y6 y7 y8) pc st) → V p l e R s m args below meth c nL D A cells slots Q (Wf x1 x2 x3 x4 x5 x6 x7 x8) (Lf x1 x2 x3 x4 x5 x6 x7 x8) pc st) : V p l e R s m args below meth c nL D A cells slots Q ws lv pc st := by
  subst hw
  subst hl
  have key : ∀ (k : Nat) (x1 : A1) (x2 : A2) (x3 : A3) (x4 : A4) (x5 : A5) (x6 : A6) (x7 : A7) (x8 : A8), μ x1 x2 x3 x4 x5 x6 x7 x8 < k → I x1 x2 x3 x4 x5 x6 x7 x8 → V p l e R s m args below meth c nL D A cells slots Q (Wf x1 x2 x3 x4 x5 x6 x7 x8) (Lf x1 x2 x3 x4 x5 x6 x7 x8) pc st := by
    intro k
    induction k with
    | zero => intro x1 x2 x3 x4 x5 x6 x7 x8 h _; exact absurd h (Nat.not_lt_zero _)
    | succ k ih => intro x1 x2 x3 x4 x5 x6 x7 x8 h hI; exact step x1 x2 x3 x4 x5 x6 x7 x8 hI (fun y1 y2 y3 y4 y5 y6 y7 y8 hJ hm => ih y1 y2 y3 y4 y5 y6 y7 y8 (Nat.lt_of_lt_of_le hm (Nat.le_of_lt_succ h)) hJ)
  exact key (μ z1 z2 z3 z4 z5 z6 z7 z8 + 1) z1 z2 z3 z4 z5 z6 z7 z8 (Nat.lt_succ_self _) h0
theorem V.icmp_eq (C : Cx p s m args meth c cc nL own D tys A) {X Y : Int} {x y : Int32} {off : Int} {tgt : Nat} (ex : x.toInt = X) (ey : y.toInt = Y) (hdg : decode cc pc = .ok (.if_icmp .eq off, 3)) (ht : (pc : Int) + off = (tgt : Int)) (hn : pc + 3 = n) (kt : X = Y → V p l e R s m args below meth c nL D A cells slots Q ws lv tgt st) (kf : X ≠ Y → V p l e R s m args below meth c nL D A cells slots Q ws lv n st) : V p l e R s m args below meth c nL D A cells slots Q ws lv pc (.int y :: .int x :: st) := by
  subst hn
  intro H locs ls hP hD hS hl
  exact lv_icmp_eq C.1 C.2.1 hdg ht (fun c9 => kt (by rw [← ex, ← ey, c9]) H locs ls hP hD hS hl) (fun c9 => kf (fun q => c9 (Int32.toInt_inj.mp (by rw [ex, ey]; exact q))) H locs ls hP hD hS hl)
theorem V.icmpn_eq (C : Cx p s m args meth c cc nL own D tys A) {a b : Nat} {off : Int} {tgt : Nat} (ha : a < 2147483648) (hb : b < 2147483648) (hdg : decode cc pc = .ok (.if_icmp .eq off, 3)) (ht : (pc : Int) + off = (tgt : Int)) (hn : pc + 3 = n) (kt : a = b → V p l e R s m args below meth c nL D A cells slots Q ws lv tgt st) (kf : a ≠ b → V p l e R s m args below meth c nL D A cells slots Q ws lv n st) : V p l e R s m args below meth c nL D A cells slots Q ws lv pc (.int (nI b) :: .int (nI a) :: st) := by
  exact V.icmp_eq C (nT ha) (nT hb) hdg ht hn (fun c9 => kt (by omega)) (fun c9 => kf (by omega))
theorem V.if_eq (C : Cx p s m args meth c cc nL own D tys A) {X : Int} {x : Int32} {off : Int} {tgt : Nat} (ex : x.toInt = X) (hdg : decode cc pc = .ok (.ifCond .eq off, 3)) (ht : (pc : Int) + off = (tgt : Int)) (hn : pc + 3 = n) (kt : X = 0 → V p l e R s m args below meth c nL D A cells slots Q ws lv tgt st) (kf : X ≠ 0 → V p l e R s m args below meth c nL D A cells slots Q ws lv n st) : V p l e R s m args below meth c nL D A cells slots Q ws lv pc (.int x :: st) := by
  subst hn
  intro H locs ls hP hD hS hl
  have ey : (0 : Int32).toInt = 0 := by decide
  exact lv_if_eq C.1 C.2.1 hdg ht (fun c9 => kt (by rw [← ex, ← ey, c9]) H locs ls hP hD hS hl) (fun c9 => kf (fun q => c9 (Int32.toInt_inj.mp (by rw [ex, ey]; exact q))) H locs ls hP hD hS hl)
theorem V.ifn_eq (C : Cx p s m args meth c cc nL own D tys A) {a : Nat} {off : Int} {tgt : Nat} (ha : a < 2147483648) (hdg : decode cc pc = .ok (.ifCond .eq off, 3)) (ht : (pc : Int) + off = (tgt : Int)) (hn : pc + 3 = n) (kt : a = 0 → V p l e R s m args below meth c nL D A cells slots Q ws lv tgt st) (kf : a ≠ 0 → V p l e R s m args below meth c nL D A cells slots Q ws lv n st) : V p l e R s m args below meth c nL D A cells slots Q ws lv pc (.int (nI a) :: st) := by
  exact V.if_eq C (nT ha) hdg ht hn (fun c9 => kt (by omega)) (fun c9 => kf (by omega))
theorem V.icmp_ne (C : Cx p s m args meth c cc nL own D tys A) {X Y : Int} {x y : Int32} {off : Int} {tgt : Nat} (ex : x.toInt = X) (ey : y.toInt = Y) (hdg : decode cc pc = .ok (.if_icmp .ne off, 3)) (ht : (pc : Int) + off = (tgt : Int)) (hn : pc + 3 = n) (kt : X ≠ Y → V p l e R s m args below meth c nL D A cells slots Q ws lv tgt st) (kf : X = Y → V p l e R s m args below meth c nL D A cells slots Q ws lv n st) : V p l e R s m args below meth c nL D A cells slots Q ws lv pc (.int y :: .int x :: st) := by
  subst hn
  intro H locs ls hP hD hS hl
  exact lv_icmp_ne C.1 C.2.1 hdg ht (fun c9 => kt (fun q => c9 (Int32.toInt_inj.mp (by rw [ex, ey]; exact q))) H locs ls hP hD hS hl) (fun c9 => kf (by rw [← ex, ← ey, c9]) H locs ls hP hD hS hl)
theorem V.icmpn_ne (C : Cx p s m args meth c cc nL own D tys A) {a b : Nat} {off : Int} {tgt : Nat} (ha : a < 2147483648) (hb : b < 2147483648) (hdg : decode cc pc = .ok (.if_icmp .ne off, 3)) (ht : (pc : Int) + off = (tgt : Int)) (hn : pc + 3 = n) (kt : a ≠ b → V p l e R s m args below meth c nL D A cells slots Q ws lv tgt st) (kf : a = b → V p l e R s m args below meth c nL D A cells slots Q ws lv n st) : V p l e R s m args below meth c nL D A cells slots Q ws lv pc (.int (nI b) :: .int (nI a) :: st) := by
  exact V.icmp_ne C (nT ha) (nT hb) hdg ht hn (fun c9 => kt (by omega)) (fun c9 => kf (by omega))
theorem V.if_ne (C : Cx p s m args meth c cc nL own D tys A) {X : Int} {x : Int32} {off : Int} {tgt : Nat} (ex : x.toInt = X) (hdg : decode cc pc = .ok (.ifCond .ne off, 3)) (ht : (pc : Int) + off = (tgt : Int)) (hn : pc + 3 = n) (kt : X ≠ 0 → V p l e R s m args below meth c nL D A cells slots Q ws lv tgt st) (kf : X = 0 → V p l e R s m args below meth c nL D A cells slots Q ws lv n st) : V p l e R s m args below meth c nL D A cells slots Q ws lv pc (.int x :: st) := by
  subst hn
  intro H locs ls hP hD hS hl
  have ey : (0 : Int32).toInt = 0 := by decide
  exact lv_if_ne C.1 C.2.1 hdg ht (fun c9 => kt (fun q => c9 (Int32.toInt_inj.mp (by rw [ex, ey]; exact q))) H locs ls hP hD hS hl) (fun c9 => kf (by rw [← ex, ← ey, c9]) H locs ls hP hD hS hl)
theorem V.ifn_ne (C : Cx p s m args meth c cc nL own D tys A) {a : Nat} {off : Int} {tgt : Nat} (ha : a < 2147483648) (hdg : decode cc pc = .ok (.ifCond .ne off, 3)) (ht : (pc : Int) + off = (tgt : Int)) (hn : pc + 3 = n) (kt : a ≠ 0 → V p l e R s m args below meth c nL D A cells slots Q ws lv tgt st) (kf : a = 0 → V p l e R s m args below meth c nL D A cells slots Q ws lv n st) : V p l e R s m args below meth c nL D A cells slots Q ws lv pc (.int (nI a) :: st) := by
  exact V.if_ne C (nT ha) hdg ht hn (fun c9 => kt (by omega)) (fun c9 => kf (by omega))
theorem V.icmp_lt (C : Cx p s m args meth c cc nL own D tys A) {X Y : Int} {x y : Int32} {off : Int} {tgt : Nat} (ex : x.toInt = X) (ey : y.toInt = Y) (hdg : decode cc pc = .ok (.if_icmp .lt off, 3)) (ht : (pc : Int) + off = (tgt : Int)) (hn : pc + 3 = n) (kt : X < Y → V p l e R s m args below meth c nL D A cells slots Q ws lv tgt st) (kf : Y ≤ X → V p l e R s m args below meth c nL D A cells slots Q ws lv n st) : V p l e R s m args below meth c nL D A cells slots Q ws lv pc (.int y :: .int x :: st) := by
  subst hn
  intro H locs ls hP hD hS hl
  exact lv_icmp_lt C.1 C.2.1 hdg ht (fun c9 => kt (by rw [← ex, ← ey]; exact Int32.lt_iff_toInt_lt.mp c9) H locs ls hP hD hS hl) (fun c9 => kf (by rw [← ex, ← ey]; exact Int.not_lt.mp (fun q => c9 (Int32.lt_iff_toInt_lt.mpr q))) H locs ls hP hD hS hl)
theorem V.icmpn_lt (C : Cx p s m args meth c cc nL own D tys A) {a b : Nat} {off : Int} {tgt : Nat} (ha : a < 2147483648) (hb : b < 2147483648) (hdg : decode cc pc = .ok (.if_icmp .lt off, 3)) (ht : (pc : Int) + off = (tgt : Int)) (hn : pc + 3 = n) (kt : a < b → V p l e R s m args below meth c nL D A cells slots Q ws lv tgt st) (kf : b ≤ a → V p l e R s m args below meth c nL D A cells slots Q ws lv n st) : V p l e R s m args below meth c nL D A cells slots Q ws lv pc (.int (nI b) :: .int (nI a) :: st) := by
  exact V.icmp_lt C (nT ha) (nT hb) hdg ht hn (fun c9 => kt (by omega)) (fun c9 => kf (by omega))
theorem V.if_lt (C : Cx p s m args meth c cc nL own D tys A) {X : Int} {x : Int32} {off : Int} {tgt : Nat} (ex : x.toInt = X) (hdg : decode cc pc = .ok (.ifCond .lt off, 3)) (ht : (pc : Int) + off = (tgt : Int)) (hn : pc + 3 = n) (kt : X < 0 → V p l e R s m args below meth c nL D A cells slots Q ws lv tgt st) (kf : 0 ≤ X → V p l e R s m args below meth c nL D A cells slots Q ws lv n st) : V p l e R s m args below meth c nL D A cells slots Q ws lv pc (.int x :: st) := by
  subst hn
  intro H locs ls hP hD hS hl
  have ey : (0 : Int32).toInt = 0 := by decide
  exact lv_if_lt C.1 C.2.1 hdg ht (fun c9 => kt (by rw [← ex, ← ey]; exact Int32.lt_iff_toInt_lt.mp c9) H locs ls hP hD hS hl) (fun c9 => kf (by rw [← ex, ← ey]; exact Int.not_lt.mp (fun q => c9 (Int32.lt_iff_toInt_lt.mpr q))) H locs ls hP hD hS hl)
theorem V.ifn_lt (C : Cx p s m args meth c cc nL own D tys A) {a : Nat} {off : Int} {tgt : Nat} (ha : a < 2147483648) (hdg : decode cc pc = .ok (.ifCond .lt off, 3)) (ht : (pc : Int) + off = (tgt : Int)) (hn : pc + 3 = n) (kt : a < 0 → V p l e R s m args below meth c nL D A cells slots Q ws lv tgt st) (kf : 0 ≤ a → V p l e R s m args below meth c nL D A cells slots Q ws lv n st) : V p l e R s m args below meth c nL D A cells slots Q ws lv pc (.int (nI a) :: st) := by
  exact V.if_lt C (nT ha) hdg ht hn (fun c9 => kt (by omega)) (fun c9 => kf (by omega))
theorem V.icmp_ge (C : Cx p s m args meth c cc nL own D tys A) {X Y : Int} {x y : Int32} {off : Int} {tgt : Nat} (ex : x.toInt = X) (ey : y.toInt = Y) (hdg : decode cc pc = .ok (.if_icmp .ge off, 3)) (ht : (pc : Int) + off = (tgt : Int)) (hn : pc + 3 = n) (kt : Y ≤ X → V p l e R s m args below meth c nL D A cells slots Q ws lv tgt st) (kf : X < Y → V p l e R s m args below meth c nL D A cells slots Q ws lv n st) : V p l e R s m args below meth c nL D A cells slots Q ws lv pc (.int y :: .int x :: st) := by
  subst hn
  intro H locs ls hP hD hS hl
  exact lv_icmp_ge C.1 C.2.1 hdg ht (fun c9 => kt (by rw [← ex, ← ey]; exact Int32.le_iff_toInt_le.mp c9) H locs ls hP hD hS hl) (fun c9 => kf (by rw [← ex, ← ey]; exact Int.not_le.mp (fun q => c9 (Int32.le_iff_toInt_le.mpr q))) H locs ls hP hD hS hl)
theorem V.icmpn_ge (C : Cx p s m args meth c cc nL own D tys A) {a b : Nat} {off : Int} {tgt : Nat} (ha : a < 2147483648) (hb : b < 2147483648) (hdg : decode cc pc = .ok (.if_icmp .ge off, 3)) (ht : (pc : Int) + off = (tgt : Int)) (hn : pc + 3 = n) (kt : b ≤ a → V p l e R s m args below meth c nL D A cells slots Q ws lv tgt st) (kf : a < b → V p l e R s m args below meth c nL D A cells slots Q ws lv n st) : V p l e R s m args below meth c nL D A cells slots Q ws lv pc (.int (nI b) :: .int (nI a) :: st) := by
  exact V.icmp_ge C (nT ha) (nT hb) hdg ht hn (fun c9 => kt (by omega)) (fun c9 => kf (by omega))
theorem V.if_ge (C : Cx p s m args meth c cc nL own D tys A) {X : Int} {x : Int32} {off : Int} {tgt : Nat} (ex : x.toInt = X) (hdg : decode cc pc = .ok (.ifCond .ge off, 3)) (ht : (pc : Int) + off = (tgt : Int)) (hn : pc + 3 = n) (kt : 0 ≤ X → V p l e R s m args below meth c nL D A cells slots Q ws lv tgt st) (kf : X < 0 → V p l e R s m args below meth c nL D A cells slots Q ws lv n st) : V p l e R s m args below meth c nL D A cells slots Q ws lv pc (.int x :: st) := by
  subst hn
  intro H locs ls hP hD hS hl
  have ey : (0 : Int32).toInt = 0 := by decide
  exact lv_if_ge C.1 C.2.1 hdg ht (fun c9 => kt (by rw [← ex, ← ey]; exact Int32.le_iff_toInt_le.mp c9) H locs ls hP hD hS hl) (fun c9 => kf (by rw [← ex, ← ey]; exact Int.not_le.mp (fun q => c9 (Int32.le_iff_toInt_le.mpr q))) H locs ls hP hD hS hl)
theorem V.ifn_ge (C : Cx p s m args meth c cc nL own D tys A) {a : Nat} {off : Int} {tgt : Nat} (ha : a < 2147483648) (hdg : decode cc pc = .ok (.ifCond .ge off, 3)) (ht : (pc : Int) + off = (tgt : Int)) (hn : pc + 3 = n) (kt : 0 ≤ a → V p l e R s m args below meth c nL D A cells slots Q ws lv tgt st) (kf : a < 0 → V p l e R s m args below meth c nL D A cells slots Q ws lv n st) : V p l e R s m args below meth c nL D A cells slots Q ws lv pc (.int (nI a) :: st) := by
  exact V.if_ge C (nT ha) hdg ht hn (fun c9 => kt (by omega)) (fun c9 => kf (by omega))
theorem V.icmp_gt (C : Cx p s m args meth c cc nL own D tys A) {X Y : Int} {x y : Int32} {off : Int} {tgt : Nat} (ex : x.toInt = X) (ey : y.toInt = Y) (hdg : decode cc pc = .ok (.if_icmp .gt off, 3)) (ht : (pc : Int) + off = (tgt : Int)) (hn : pc + 3 = n) (kt : Y < X → V p l e R s m args below meth c nL D A cells slots Q ws lv tgt st) (kf : X ≤ Y → V p l e R s m args below meth c nL D A cells slots Q ws lv n st) : V p l e R s m args below meth c nL D A cells slots Q ws lv pc (.int y :: .int x :: st) := by
  subst hn
  intro H locs ls hP hD hS hl
  exact lv_icmp_gt C.1 C.2.1 hdg ht (fun c9 => kt (by rw [← ex, ← ey]; exact Int32.lt_iff_toInt_lt.mp c9) H locs ls hP hD hS hl) (fun c9 => kf (by rw [← ex, ← ey]; exact Int.not_lt.mp (fun q => c9 (Int32.lt_iff_toInt_lt.mpr q))) H locs ls hP hD hS hl)
theorem V.icmpn_gt (C : Cx p s m args meth c cc nL own D tys A) {a b : Nat} {off : Int} {tgt : Nat} (ha : a < 2147483648) (hb : b < 2147483648) (hdg : decode cc pc = .ok (.if_icmp .gt off, 3)) (ht : (pc : Int) + off = (tgt : Int)) (hn : pc + 3 = n) (kt : b < a → V p l e R s m args below meth c nL D A cells slots Q ws lv tgt st) (kf : a ≤ b → V p l e R s m args below meth c nL D A cells slots Q ws lv n st) : V p l e R s m args below meth c nL D A cells slots Q ws lv pc (.int (nI b) :: .int (nI a) :: st) := by
  exact V.icmp_gt C (nT ha) (nT hb) hdg ht hn (fun c9 => kt (by omega)) (fun c9 => kf (by omega))
theorem V.if_gt (C : Cx p s m args meth c cc nL own D tys A) {X : Int} {x : Int32} {off : Int} {tgt : Nat} (ex : x.toInt = X) (hdg : decode cc pc = .ok (.ifCond .gt off, 3)) (ht : (pc : Int) + off = (tgt : Int)) (hn : pc + 3 = n) (kt : 0 < X → V p l e R s m args below meth c nL D A cells slots Q ws lv tgt st) (kf : X ≤ 0 → V p l e R s m args below meth c nL D A cells slots Q ws lv n st) : V p l e R s m args below meth c nL D A cells slots Q ws lv pc (.int x :: st) := by
  subst hn
  intro H locs ls hP hD hS hl
  have ey : (0 : Int32).toInt = 0 := by decide
  exact lv_if_gt C.1 C.2.1 hdg ht (fun c9 => kt (by rw [← ex, ← ey]; exact Int32.lt_iff_toInt_lt.mp c9) H locs ls hP hD hS hl) (fun c9 => kf (by rw [← ex, ← ey]; exact Int.not_lt.mp (fun q => c9 (Int32.lt_iff_toInt_lt.mpr q))) H locs ls hP hD hS hl)
theorem V.ifn_gt (C : Cx p s m args meth c cc nL own D tys A) {a : Nat} {off : Int} {tgt : Nat} (ha : a < 2147483648) (hdg : decode cc pc = .ok (.ifCond .gt off, 3)) (ht : (pc : Int) + off = (tgt : Int)) (hn : pc + 3 = n) (kt : 0 < a → V p l e R s m args below meth c nL D A cells slots Q ws lv tgt st) (kf : a ≤ 0 → V p l e R s m args below meth c nL D A cells slots Q ws lv n st) : V p l e R s m args below meth c nL D A cells slots Q ws lv pc (.int (nI a) :: st) := by
  exact V.if_gt C (nT ha) hdg ht hn (fun c9 => kt (by omega)) (fun c9 => kf (by omega))
theorem V.icmp_le (C : Cx p s m args meth c cc nL own D tys A) {X Y : Int} {x y : Int32} {off : Int} {tgt : Nat} (ex : x.toInt = X) (ey : y.toInt = Y) (hdg : decode cc pc = .ok (.if_icmp .le off, 3)) (ht : (pc : Int) + off = (tgt : Int)) (hn : pc + 3 = n) (kt : X ≤ Y → V p l e R s m args below meth c nL D A cells slots Q ws lv tgt st) (kf : Y < X → V p l e R s m args below meth c nL D A cells slots Q ws lv n st) : V p l e R s m args below meth c nL D A cells slots Q ws lv pc (.int y :: .int x :: st) := by
  subst hn
  intro H locs ls hP hD hS hl
  exact lv_icmp_le C.1 C.2.1 hdg ht (fun c9 => kt (by rw [← ex, ← ey]; exact Int32.le_iff_toInt_le.mp c9) H locs ls hP hD hS hl) (fun c9 => kf (by rw [← ex, ← ey]; exact Int.not_le.mp (fun q => c9 (Int32.le_iff_toInt_le.mpr q))) H locs ls hP hD hS hl)
theorem V.icmpn_le (C : Cx p s m args meth c cc nL own D tys A) {a b : Nat} {off : Int} {tgt : Nat} (ha : a < 2147483648) (hb : b < 2147483648) (hdg : decode cc pc = .ok (.if_icmp .le off, 3)) (ht : (pc : Int) + off = (tgt : Int)) (hn : pc + 3 = n) (kt : a ≤ b → V p l e R s m args below meth c nL D A cells slots Q ws lv tgt st) (kf : b < a → V p l e R s m args below meth c nL D A cells slots Q ws lv n st) : V p l e R s m args below meth c nL D A cells slots Q ws lv pc (.int (nI b) :: .int (nI a) :: st) := by
  exact V.icmp_le C (nT ha) (nT hb) hdg ht hn (fun c9 => kt (by omega)) (fun c9 => kf (by omega))
theorem V.if_le (C : Cx p s m args meth c cc nL own D tys A) {X : Int} {x : Int32} {off : Int} {tgt : Nat} (ex : x.toInt = X) (hdg : decode cc pc = .ok (.ifCond .le off, 3)) (ht : (pc : Int) + off = (tgt : Int)) (hn : pc + 3 = n) (kt : X ≤ 0 → V p l e R s m args below meth c nL D A cells slots Q ws lv tgt st) (kf : 0 < X → V p l e R s m args below meth c nL D A cells slots Q ws lv n st) : V p l e R s m args below meth c nL D A cells slots Q ws lv pc (.int x :: st) := by
  subst hn
  intro H locs ls hP hD hS hl
  have ey : (0 : Int32).toInt = 0 := by decide
  exact lv_if_le C.1 C.2.1 hdg ht (fun c9 => kt (by rw [← ex, ← ey]; exact Int32.le_iff_toInt_le.mp c9) H locs ls hP hD hS hl) (fun c9 => kf (by rw [← ex, ← ey]; exact Int.not_le.mp (fun q => c9 (Int32.le_iff_toInt_le.mpr q))) H locs ls hP hD hS hl)
theorem V.ifn_le (C : Cx p s m args meth c cc nL own D tys A) {a : Nat} {off : Int} {tgt : Nat} (ha : a < 2147483648) (hdg : decode cc pc = .ok (.ifCond .le off, 3)) (ht : (pc : Int) + off = (tgt : Int)) (hn : pc + 3 = n) (kt : a ≤ 0 → V p l e R s m args below meth c nL D A cells slots Q ws lv tgt st) (kf : 0 < a → V p l e R s m args below meth c nL D A cells slots Q ws lv n st) : V p l e R s m args below meth c nL D A cells slots Q ws lv pc (.int (nI a) :: st) := by
  exact V.if_le C (nT ha) hdg ht hn (fun c9 => kt (by omega)) (fun c9 => kf (by omega))
theorem V.ifb_eq (C : Cx p s m args meth c cc nL own D tys A) {P : Prop} {off : Int} {tgt : Nat} (hdg : decode cc pc = .ok (.ifCond .eq off, 3)) (ht : (pc : Int) + off = (tgt : Int)) (hn : pc + 3 = n) (kt : ¬ P → V p l e R s m args below meth c nL D A cells slots Q ws lv tgt st) (kf : P → V p l e R s m args below meth c nL D A cells slots Q ws lv n st) : V p l e R s m args below meth c nL D A cells slots Q ws lv pc (.int (bI P) :: st) := by
  subst hn
  intro H locs ls hP hD hS hl
  exact lv_if_eq C.1 C.2.1 hdg ht (fun c9 => kt (bI_z.mp c9) H locs ls hP hD hS hl) (fun c9 => kf (Classical.byContradiction fun q => c9 (bI_f q)) H locs ls hP hD hS hl)
theorem V.ifb_ne (C : Cx p s m args meth c cc nL own D tys A) {P : Prop} {off : Int} {tgt : Nat} (hdg : decode cc pc = .ok (.ifCond .ne off, 3)) (ht : (pc : Int) + off = (tgt : Int)) (hn : pc + 3 = n) (kt : P → V p l e R s m args below meth c nL D A cells slots Q ws lv tgt st) (kf : ¬ P → V p l e R s m args below meth c nL D A cells slots Q ws lv n st) : V p l e R s m args below meth c nL D A cells slots Q ws lv pc (.int (bI P) :: st) := by
  subst hn
  intro H locs ls hP hD hS hl
  exact lv_if_ne C.1 C.2.1 hdg ht (fun c9 => kt (Classical.byContradiction fun q => c9 (bI_f q)) H locs ls hP hD hS hl) (fun c9 => kf (bI_z.mp c9) H locs ls hP hD hS hl)
theorem V.goto (C : Cx p s m args meth c cc nL own D tys A) {off : Int} (hdg : decode cc pc = .ok (.goto off, 3)) (ht : (pc : Int) + off = (n : Int)) (k : V p l e R s m args below meth c nL D A cells slots Q ws lv n st) : V p l e R s m args below meth c nL D A cells slots Q ws lv pc st := by
  intro H locs ls hP hD hS hl
  exact lv_goto C.1 C.2.1 hdg ht (k H locs ls hP hD hS hl)
theorem V.tableIn (C : Cx p s m args meth c cc nL own D tys A) {dflt lo hi off X : Int} {offs : Array Int} {len : Nat} {x : Int32} (ex : x.toInt = X) (hdg : decode cc pc = .ok (.tableswitch dflt lo hi offs, len)) (h1 : ¬ X < lo) (h2 : ¬ hi < X) (ho : offs[(X - lo).toNat]? = some off) (ht : (pc : Int) + off = (n : Int)) (k : V p l e R s m args below meth c nL D A cells slots Q ws lv n st) : V p l e R s m args below meth c nL D A cells slots Q ws lv pc (.int x :: st) := by
  subst ex
  intro H locs ls hP hD hS hl
  exact lv_tableIn C.1 C.2.1 hdg h1 h2 ho ht (k H locs ls hP hD hS hl)
theorem V.tableOut (C : Cx p s m args meth c cc nL own D tys A) {dflt lo hi X : Int} {offs : Array Int} {len : Nat} {x : Int32} (ex : x.toInt = X) (hdg : decode cc pc = .ok (.tableswitch dflt lo hi offs, len)) (h : X < lo ∨ hi < X) (ht : (pc : Int) + dflt = (n : Int)) (k : V p l e R s m args below meth c nL D A cells slots Q ws lv n st) : V p l e R s m args below meth c nL D A cells slots Q ws lv pc (.int x :: st) := by
  subst ex
  intro H locs ls hP hD hS hl
  exact lv_tableOut C.1 C.2.1 hdg h ht (k H locs ls hP hD hS hl)
/-- a class's rows: its words are among wT, types, names apart -/
def clOk (ci : Nat) (C : String) (T : u_T) (N : Nat) (ty : Nat → FieldType) : Prop := vwCl[ci]? = some (C, T, N) ∧ (∀ w ∈ u_ws C T N, w ∈ wT) ∧ (∀ k, k < N → parseFieldDescriptor (T k).2.2.1 = some (ty k)) ∧ ∀ a, a < N → ∀ b, b < N → a ≠ b → (T a).2.1 ≠ (T b).2.1
theorem V.get (C : Cx p s m args meth c cc nL own D tys A) {ci N : Nat} {Cn : String} {T : u_T} {ty : Nat → FieldType} {a idx q0 k0 : Nat} {fs : List Value} {v : Value} (hc : clOk ci Cn T N ty) (he : ws[q0]? = some (a, .inr (ci, fs))) (hk : k0 < N) (hT : (T k0).1 = Cn) (hlink : .fieldLink own idx Cn (T k0).2.1 (T k0).2.2.1 ∈ wT) (hv : fs[k0]? = some v) (hdg : decode cc pc = .ok (.getfield idx, 3)) (hn : pc + 3 = n) (k : V p l e R s m args below meth c nL D A cells slots Q ws lv n (v :: st)) : V p l e R s m args below meth c nL D A cells slots Q ws lv pc (.ref a :: st) := by
  subst hn
  obtain ⟨h1, h2, h3, h4⟩ := hc
  intro H locs ls hP hD hS hl
  exact va_get C.1 C.2.1 C.2.2.2.2.1 h2 C.2.2.2.1 C.2.2.2.2.2.1 hP q0 he h1 k0 hk (C.2.2.2.2.1 _ hlink) (fun x9 h9 => by rw [hT] at h9; exact h9) hv hdg (k H locs ls hP hD hS hl)
theorem V.put (C : Cx p s m args meth c cc nL own D tys A) {ci N : Nat} {Cn : String} {T : u_T} {ty : Nat → FieldType} {a idx q0 k0 : Nat} {fs : List Value} {v : Value} (hc : clOk ci Cn T N ty) (he : ws[q0]? = some (a, .inr (ci, fs))) (hk : k0 < N) (hT : (T k0).1 = Cn) (hfin : (T k0).2.2.2 = false) (hlink : .fieldLink own idx Cn (T k0).2.1 (T k0).2.2.1 ∈ wT) (hnar : narrow (ty k0) v = v) (hfit : fits (ty k0) v = true) (hlen : k0 < fs.length) (hw : ws.set q0 (a, .inr (ci, fs.set k0 v)) = ws') (hdg : decode cc pc = .ok (.putfield idx, 3)) (hn : pc + 3 = n) (k : V p l e R s m args below meth c nL D A cells slots Q ws' lv n st) : V p l e R s m args below meth c nL D A cells slots Q ws lv pc (v :: .ref a :: st) := by
  subst hn
  subst hw
  obtain ⟨h1, h2, h3, h4⟩ := hc
  intro H locs ls hP hD hS hl
  exact va_put C.1 C.2.1 C.2.2.2.2.1 h2 ty h3 h4 C.2.2.2.1 C.2.2.2.2.2.1 hP hD hS q0 he h1 k0 hk (C.2.2.2.2.1 _ hlink) (fun x9 h9 => by rw [hT] at h9; exact h9) hfin (h3 k0 hk) hnar hfit hlen hdg (fun H1 locs1 hP1 hD1 hS1 => k H1 locs1 ls hP1 hD1 hS1 hl)
theorem V.putF (C : Cx p s m args meth c cc nL own D tys A) {ci N : Nat} {Cn : String} {T : u_T} {ty : Nat → FieldType} {a idx q0 k0 : Nat} {fs : List Value} {v : Value} (hin : meth.name = "<init>") (ho : Cn = own) (hc : clOk ci Cn T N ty) (he : ws[q0]? = some (a, .inr (ci, fs))) (hk : k0 < N) (hT : (T k0).1 = Cn) (hfin : (T k0).2.2.2 = true) (hlink : .fieldLink own idx Cn (T k0).2.1 (T k0).2.2.1 ∈ wT) (hnar : narrow (ty k0) v = v) (hfit : fits (ty k0) v = true) (hlen : k0 < fs.length) (hw : ws.set q0 (a, .inr (ci, fs.set k0 v)) = ws') (hdg : decode cc pc = .ok (.putfield idx, 3)) (hn : pc + 3 = n) (k : V p l e R s m args below meth c nL D A cells slots Q ws' lv n st) : V p l e R s m args below meth c nL D A cells slots Q ws lv pc (v :: .ref a :: st) := by
  subst hn
  subst hw
  obtain ⟨h1, h2, h3, h4⟩ := hc
  intro H locs ls hP hD hS hl
  exact va_putF C.1 C.2.1 C.2.2.2.2.1 h2 ty h3 h4 C.2.2.2.1 C.2.2.2.2.2.1 hP hD hS q0 he h1 k0 hk (C.2.2.2.2.1 _ hlink) (fun x9 h9 => by rw [hT] at h9; exact h9) hfin hin (hT.trans ho) (h3 k0 hk) hnar hfit hlen hdg (fun H1 locs1 hP1 hD1 hS1 => k H1 locs1 ls hP1 hD1 hS1 hl)
theorem V.iaload_n (C : Cx p s m args meth c cc nL own D tys A) {a q0 t0 N i : Nat} {cA : ClassId} {f : Nat → Nat} (he : ws[q0]? = some (a, .inl (cA, N, .inl (fun j => nI (f j))))) (ht : tys.1[t0]? = some (cA, .int)) (hi : i < N) (hN : N < 2147483648) (hdg : decode cc pc = .ok (.iaload, 1)) (hn : pc + 1 = n) (k : V p l e R s m args below meth c nL D A cells slots Q ws lv n (.int (nI (f i)) :: st)) : V p l e R s m args below meth c nL D A cells slots Q ws lv pc (.int (nI i) :: .ref a :: st) := by
  subst hn
  intro H locs ls hP hD hS hl
  refine va_iald C.1 C.2.1 C.2.2.2.2.2.1 hP q0 t0 he ht (vp_in_nI hi (by simpa using hN)) hdg ?_
  rw [nI_clamp (show i < 2 ^ 31 by simp; omega)]
  exact k H locs ls hP hD hS hl
theorem V.iaload_z (C : Cx p s m args meth c cc nL own D tys A) {a q0 t0 N i : Nat} {cA : ClassId} {f : Nat → Int} (he : ws[q0]? = some (a, .inl (cA, N, .inl (fun j => iI (f j))))) (ht : tys.1[t0]? = some (cA, .int)) (hi : i < N) (hN : N < 2147483648) (hdg : decode cc pc = .ok (.iaload, 1)) (hn : pc + 1 = n) (k : V p l e R s m args below meth c nL D A cells slots Q ws lv n (.int (iI (f i)) :: st)) : V p l e R s m args below meth c nL D A cells slots Q ws lv pc (.int (nI i) :: .ref a :: st) := by
  subst hn
  intro H locs ls hP hD hS hl
  refine va_iald C.1 C.2.1 C.2.2.2.2.2.1 hP q0 t0 he ht (vp_in_nI hi (by simpa using hN)) hdg ?_
  rw [nI_clamp (show i < 2 ^ 31 by simp; omega)]
  exact k H locs ls hP hD hS hl
theorem V.caload_n (C : Cx p s m args meth c cc nL own D tys A) {a q0 t0 N i : Nat} {cA : ClassId} {f : Nat → Nat} (he : ws[q0]? = some (a, .inl (cA, N, .inl (fun j => nI (f j))))) (ht : tys.1[t0]? = some (cA, .char)) (hi : i < N) (hN : N < 2147483648) (hdg : decode cc pc = .ok (.caload, 1)) (hn : pc + 1 = n) (k : V p l e R s m args below meth c nL D A cells slots Q ws lv n (.int (nI (f i)) :: st)) : V p l e R s m args below meth c nL D A cells slots Q ws lv pc (.int (nI i) :: .ref a :: st) := by
  subst hn
  intro H locs ls hP hD hS hl
  refine va_cald C.1 C.2.1 C.2.2.2.2.2.1 hP q0 t0 he ht (vp_in_nI hi (by simpa using hN)) hdg ?_
  rw [nI_clamp (show i < 2 ^ 31 by simp; omega)]
  exact k H locs ls hP hD hS hl
theorem V.iastore_n (C : Cx p s m args meth c cc nL own D tys A) {a q0 t0 N i : Nat} {cA : ClassId} {f : Nat → Nat} {x : Nat} (he : ws[q0]? = some (a, .inl (cA, N, .inl (fun j => nI (f j))))) (ht : tys.1[t0]? = some (cA, .int)) (hi : i < N) (hN : N < 2147483648) (hw : ws.set q0 (a, .inl (cA, N, .inl (fun j => nI (updN f i x j)))) = ws') (hdg : decode cc pc = .ok (.iastore, 1)) (hn : pc + 1 = n) (k : V p l e R s m args below meth c nL D A cells slots Q ws' lv n st) : V p l e R s m args below meth c nL D A cells slots Q ws lv pc (.int (nI x) :: .int (nI i) :: .ref a :: st) := by
  subst hn
  subst hw
  intro H locs ls hP hD hS hl
  refine va_iast C.1 C.2.1 C.2.2.2.2.2.1 hP hD hS q0 t0 he ht (vp_in_nI hi (by simpa using hN)) hdg (fun H1 locs1 hP1 hD1 hS1 => ?_)
  rw [nI_clamp (show i < 2 ^ 31 by simp; omega), upd_nI] at hP1 hD1
  exact k H1 locs1 ls hP1 hD1 hS1 hl
theorem V.iastore_z (C : Cx p s m args meth c cc nL own D tys A) {a q0 t0 N i : Nat} {cA : ClassId} {f : Nat → Int} {x : Int} (he : ws[q0]? = some (a, .inl (cA, N, .inl (fun j => iI (f j))))) (ht : tys.1[t0]? = some (cA, .int)) (hi : i < N) (hN : N < 2147483648) (hw : ws.set q0 (a, .inl (cA, N, .inl (fun j => iI (updZ f i x j)))) = ws') (hdg : decode cc pc = .ok (.iastore, 1)) (hn : pc + 1 = n) (k : V p l e R s m args below meth c nL D A cells slots Q ws' lv n st) : V p l e R s m args below meth c nL D A cells slots Q ws lv pc (.int (iI x) :: .int (nI i) :: .ref a :: st) := by
  subst hn
  subst hw
  intro H locs ls hP hD hS hl
  refine va_iast C.1 C.2.1 C.2.2.2.2.2.1 hP hD hS q0 t0 he ht (vp_in_nI hi (by simpa using hN)) hdg (fun H1 locs1 hP1 hD1 hS1 => ?_)
  rw [nI_clamp (show i < 2 ^ 31 by simp; omega), upd_iI] at hP1 hD1
  exact k H1 locs1 ls hP1 hD1 hS1 hl
theorem V.castore_n (C : Cx p s m args meth c cc nL own D tys A) {a q0 t0 N i : Nat} {cA : ClassId} {f : Nat → Nat} {x : Nat} (he : ws[q0]? = some (a, .inl (cA, N, .inl (fun j => nI (f j))))) (ht : tys.1[t0]? = some (cA, .char)) (hi : i < N) (hN : N < 2147483648) (hx : vp_nar .char (nI x) = nI x) (hw : ws.set q0 (a, .inl (cA, N, .inl (fun j => nI (updN f i x j)))) = ws') (hdg : decode cc pc = .ok (.castore, 1)) (hn : pc + 1 = n) (k : V p l e R s m args below meth c nL D A cells slots Q ws' lv n st) : V p l e R s m args below meth c nL D A cells slots Q ws lv pc (.int (nI x) :: .int (nI i) :: .ref a :: st) := by
  subst hn
  subst hw
  intro H locs ls hP hD hS hl
  refine va_cast C.1 C.2.1 C.2.2.2.2.2.1 hP hD hS q0 t0 he ht (vp_in_nI hi (by simpa using hN)) hdg (fun H1 locs1 hP1 hD1 hS1 => ?_)
  rw [nI_clamp (show i < 2 ^ 31 by simp; omega), hx, upd_nI] at hP1 hD1
  exact k H1 locs1 ls hP1 hD1 hS1 hl
theorem V.max_n (C : Cx p s m args meth c cc nL own D tys A) {a b idx : Nat} (hw : .methodLink own idx Lib.Math.max.name ∈ wT ∧ .static Lib.Math.max.name ∈ wT ∧ .initialized "java/lang/Math" ∈ wT ∧ .code Lib.Math.max.name Lib.Math.max.code 2 (some .int) ∈ wT) (hfr : 1 ≤ R.frames) (hlo : (st.map fun v => v.category).sum + 13 ≤ R.locals) (hcs : cells ≤ R.cells ∧ slots ≤ R.slots) (ha : a < 2147483648) (hb : b < 2147483648) (hdg : decode cc pc = .ok (.invokestatic idx, 3)) (hn : pc + 3 = n) (k : V p l e R s m args below meth c nL D A cells slots Q ws lv n (.int (nI (max a b)) :: st)) : V p l e R s m args below meth c nL D A cells slots Q ws lv pc (.int (nI b) :: .int (nI a) :: st) := by
  subst hn
  intro H locs ls hP hD hS hl
  refine va_mmax C.1 C.2.1 (C.2.2.1.trans hl.1.symm) C.2.2.2.1 (C.2.2.2.2.1 _ hw.1) (C.2.2.2.2.1 _ hw.2.1) (C.2.2.2.2.1 _ hw.2.2.1) (C.2.2.2.2.1 _ hw.2.2.2) hfr hlo hcs.1 hcs.2 hdg ?_
  rw [show (if nI a < nI b then nI b else nI a) = nI (max a b) from ?_]
  · exact k H locs ls hP hD hS hl
  · by_cases h : a < b
    · rw [if_pos (nI_lt h (by simpa using hb)), Nat.max_eq_right (Nat.le_of_lt h)]
    · rw [if_neg (nI_nlt (Nat.not_lt.mp h) (by simpa using ha)), Nat.max_eq_left (Nat.not_lt.mp h)]
theorem V.max_z (C : Cx p s m args meth c cc nL own D tys A) {X Y : Int} {x y : Int32} {idx : Nat} (hw : .methodLink own idx Lib.Math.max.name ∈ wT ∧ .static Lib.Math.max.name ∈ wT ∧ .initialized "java/lang/Math" ∈ wT ∧ .code Lib.Math.max.name Lib.Math.max.code 2 (some .int) ∈ wT) (hfr : 1 ≤ R.frames) (hlo : (st.map fun v => v.category).sum + 13 ≤ R.locals) (hcs : cells ≤ R.cells ∧ slots ≤ R.slots) (ex : x = iI X) (ey : y = iI Y) (hX : -2147483648 ≤ X ∧ X < 2147483648) (hY : -2147483648 ≤ Y ∧ Y < 2147483648) (hdg : decode cc pc = .ok (.invokestatic idx, 3)) (hn : pc + 3 = n) (k : V p l e R s m args below meth c nL D A cells slots Q ws lv n (.int (iI (max X Y)) :: st)) : V p l e R s m args below meth c nL D A cells slots Q ws lv pc (.int y :: .int x :: st) := by
  subst hn
  subst ex
  subst ey
  intro H locs ls hP hD hS hl
  refine va_mmax C.1 C.2.1 (C.2.2.1.trans hl.1.symm) C.2.2.2.1 (C.2.2.2.2.1 _ hw.1) (C.2.2.2.2.1 _ hw.2.1) (C.2.2.2.2.1 _ hw.2.2.1) (C.2.2.2.2.1 _ hw.2.2.2) hfr hlo hcs.1 hcs.2 hdg ?_
  rw [show (if iI X < iI Y then iI Y else iI X) = iI (max X Y) from ?_]
  · exact k H locs ls hP hD hS hl
  · have h0 : iI X < iI Y ↔ X < Y := by rw [Int32.lt_iff_toInt_lt, iI_toInt hX.1 hX.2, iI_toInt hY.1 hY.2]
    by_cases h : X < Y
    · rw [if_pos (h0.mpr h), Int.max_eq_right (Int.le_of_lt h)]
    · rw [if_neg (fun q => h (h0.mp q)), Int.max_eq_left (Int.not_lt.mp h)]
theorem V.newarr (C : Cx p s m args meth c cc nL own D tys A) {at9 : ArrayType} {ty : FieldType} {N : Nat} {a0 : vp_A} {cA : ClassId} {t0 : Nat} (harr : .arrayClass (newarray.typeOf at9) ∈ wT) (hty : newarray.typeOf at9 = ty) (hta : tys.1[t0]? = some (cA, ty)) (ha : ∀ cA : ClassId, vp_cell cA a0 = arrV cA N (fun _ => defaultValue ty)) (hobj : ∀ Cn, ty ≠ .object Cn) (hN : N < 2147483648) (hby : N * componentBytes ty ≤ 536870912) (hcs : cells + 1 ≤ R.cells) (hsl : slots + N ≤ R.slots) (hdg : decode cc pc = .ok (.newarray at9, 2)) (hn : pc + 2 = n) (k : ∀ q : Nat, V p l e R s m args below meth c nL D A (cells + 1) (slots + N) Q (ws ++ [(q, .inl (cA, a0))]) lv n (.ref q :: st)) : V p l e R s m args below meth c nL D A cells slots Q ws lv pc (.int (nI N) :: st) := by
  subst hn
  intro H locs ls hP hD hS hl
  refine va_newa C.1 C.2.1 (C.2.2.2.2.1 _ harr) hty C.2.2.2.2.2.1 hP hD hS C.2.2.2.2.2.2.1 ha (nI_pos (by simpa using hN)) (nI_clamp (by simpa using hN)) hby hcs hsl hdg (fun q cB H1 hK1 hP1 hD1 hS1 => ?_)
  have e1 : cB = cA := by
    have h1 := (hK1.2 tys.1.length (cB, ty) (by simp)).2
    have h2 := (C.2.2.2.2.2.1.2 t0 _ hta).2
    have h3 : s.vm.findClass ("[" ++ ty.toString) = some cB := by cases ty <;> first | exact h1 | exact absurd rfl (hobj _)
    have h4 : s.vm.findClass ("[" ++ ty.toString) = some cA := by cases ty <;> first | exact h2 | exact absurd rfl (hobj _)
    exact Option.some.inj (h3.symm.trans h4)
  subst e1
  exact k q H1 locs ls hP1 hD1 hS1 hl
theorem V.new (C : Cx p s m args meth c cc nL own D tys A) {ci N idx : Nat} {Cn : String} {T : u_T} {ty : Nat → FieldType} {fs : List Value} (hc : clOk ci Cn T N ty) (hw : .classLink own idx Cn ∈ wT ∧ .instantiable Cn N ∈ wT ∧ .initialized Cn ∈ wT) (hfs : ∀ j, j < N → defaultValue (ty j) = vp_V fs j) (hcs : cells + 1 ≤ R.cells) (hsl : slots + N ≤ R.slots) (hdg : decode cc pc = .ok (.new idx, 3)) (hn : pc + 3 = n) (k : ∀ q : Nat, V p l e R s m args below meth c nL D A (cells + 1) (slots + N) Q (ws ++ [(q, .inr (ci, fs))]) lv n (.ref q :: st)) : V p l e R s m args below meth c nL D A cells slots Q ws lv pc st := by
  subst hn
  obtain ⟨h1, h2, h3, h4⟩ := hc
  intro H locs ls hP hD hS hl
  exact va_new C.1 C.2.1 C.2.2.2.2.1 h2 ty h3 C.2.2.2.1 (C.2.2.2.2.1 _ hw.1) (C.2.2.2.2.1 _ hw.2.1) (C.2.2.2.2.1 _ hw.2.2) C.2.2.2.2.2.1 hP hD hS C.2.2.2.2.2.2.1 h1 hfs hcs hsl hdg (fun q H1 hP1 hD1 hS1 => k q H1 locs ls hP1 hD1 hS1 hl)
theorem V.objInit (C : Cx p s m args meth c cc nL own D tys A) {a idx : Nat} (hw : .methodLink own idx Lib.objectInit ∈ wT ∧ .instanceMethod Lib.objectInit ∈ wT ∧ .code Lib.objectInit ⟨#[0xb1]⟩ 1 none ∈ wT) (hfr : 1 ≤ R.frames) (hlo : (st.map fun v => v.category).sum + 12 ≤ R.locals) (hdg : decode cc pc = .ok (.invokespecial idx, 3)) (hn : pc + 3 = n) (k : V p l e R s m args below meth c nL D A cells slots Q ws lv n st) : V p l e R s m args below meth c nL D A cells slots Q ws lv pc (.ref a :: st) := by
  subst hn
  intro H locs ls hP hD hS hl
  exact W.objInit C.1 C.2.1 C.2.2.2.1 (C.2.2.2.2.1 _ hw.1) (C.2.2.2.2.1 _ hw.2.1) (C.2.2.2.2.1 _ hw.2.2) (g := F0 m pc ls (.ref a :: st)) rfl (hl.1.trans C.2.2.1.symm) rfl hdg hfr (by show 2 * 0 + _ + 12 ≤ _; omega) (k H locs ls hP hD hS hl)
theorem V.widen (C : Cx p s m args meth c cc nL own D tys A) {k0 n0 : Nat} (h1 : cells ≤ k0) (h2 : slots ≤ n0) (k : V p l e R s m args below meth c nL D A k0 n0 Q ws lv pc st) : V p l e R s m args below meth c nL D A cells slots Q ws lv pc st := by
  intro H locs ls hP hD hS hl
  exact W.widen h1 h2 (k H locs ls hP hD hS hl)
theorem V.re (C : Cx p s m args meth c cc nL own D tys A) (is : List Nat) (h : pickW ws is = ws') (hb : ∀ i ∈ is, i < ws.length) (hn : va_nd is = true) (k : V p l e R s m args below meth c nL D A cells slots Q ws' lv pc st) : V p l e R s m args below meth c nL D A cells slots Q ws lv pc st := by
  subst h
  intro H locs ls hP hD hS hl
  exact k H locs ls (hP.sub is rfl) (hD.sub is hn (pickW_map hb)) hS hl
/-- a contract's start is blind to the frame, and holds at a call -/
theorem pre_blind {As : List Value} {W0 : va_W} {sz : Nat} : FrameBlind (va_Pc As (fun U => U.heap.size = sz ∧ va_P D vwCl W0 U.heap ∧ va_K D vwCl tys.1 U ∧ va_D (fun _ => True) W0 ∧ SF tys.2 (va_A W0 sz) U)) := fun a U g mk q => by
  obtain ⟨q0, q1, qP, qK, qD, qF⟩ := q
  exact ⟨q0, q1, qP, va_K.moved (u := U) (U := U.calling g mk a) (Vm.Alike.refl U.vm) qK, qD, SF_calling qF⟩
theorem pre_at (C : Cx p s m args meth c cc nL own D tys A) {As : List Value} {W0 : va_W} {is : List Nat} {H : Heap} {locs : List Loc} (hP : va_P D vwCl ws H) (hD : va_D A ws) (hS : va_S A s.heap H locs) (hC : pickW ws is = W0) (hb : ∀ i ∈ is, i < ws.length) (hnd : va_nd is = true) : ∀ U : State, U.heap = H → s.WarmedH U.vm → va_Pc As (fun U => U.heap.size = H.size ∧ va_P D vwCl W0 U.heap ∧ va_K D vwCl tys.1 U ∧ va_D (fun _ => True) W0 ∧ SF tys.2 (va_A W0 H.size) U) As.toArray U := by
  intro U hU hW
  have hm : is.map (fun i => ws[i]?) = W0.map some := by rw [← hC]; exact pickW_map hb
  exact ⟨rfl, by rw [hU], by rw [hU]; exact hP.sub is hC, va_K.moved hW.alike C.2.2.2.2.2.1, (hD.sub is hnd hm).weaken (fun _ _ _ _ => trivial), SF_call C.2.2.2.2.2.2.2.2 hS (va_free hD hS C.2.2.2.2.2.2.1 is hm) hU hW⟩
theorem V.behind_i (C : Cx p s m args meth c cc nL own D tys A) {isC isR pm : List Nat} {W0 W1 : va_W} {R' : Int32} {a : Array Value}
    (hC : pickW ws isC = W0) (hbC : ∀ i ∈ isC, i < ws.length) (hbR : ∀ i ∈ isR, i < ws.length) (hnR : va_nd isR = true) (hdis : ∀ i ∈ isR, i ∉ isC) (hw : pickW (pickW ws isR ++ W1) pm = ws') (hbP : ∀ i ∈ pm, i < (pickW ws isR ++ W1).length) (hnP : va_nd pm = true)
    (hrun : ∀ (H : Heap) (locs : List Loc) (ls : Array Slot), va_P D vwCl ws H → va_D A ws → va_S A s.heap H locs → lv_has ls nL lv → va_Run p l e R s m args below meth c H locs cells slots 0 0 (F0 m pc ls st) rest (va_Qi (fun (r : Int32) (_ : Unit) => r = R') (fun _ t => va_P D vwCl W1 t.heap ∧ va_K D vwCl tys.1 t ∧ va_D (va_A W0 H.size) W1) (va_A W0 H.size) a) (va_A W0 H.size))
    (hn : pc + 3 = n) (k : V p l e R s m args below meth c nL D A cells slots Q ws' lv n (.int R' :: rest)) : V p l e R s m args below meth c nL D A cells slots Q ws lv pc st := by
  subst hn
  subst hw
  intro H locs ls hP hD hS hl
  have hm : isC.map (fun i => ws[i]?) = W0.map some := by rw [← hC]; exact pickW_map hbC
  have hF := va_free hD hS C.2.2.2.2.2.2.1 isC hm
  refine va_calli (hrun H locs ls hP hD hS hl) hS (fun q _ h => hF q h) hF (fun r u t H1 locs1 ht hvm hpost hB hz hk hS1 => ?_)
  subst hpost
  obtain ⟨hP1, hK1, hD1⟩ := hB
  rw [ht] at hP1
  obtain ⟨hP2, hD2⟩ := va_join (wr := pickW ws isR) hP hD isC isR hm (pickW_map hbR) hnR hdis hk hF hP1 hD1
  exact k H1 locs1 ls (hP2.sub pm rfl) (hD2.sub pm hnP (pickW_map hbP)) hS1 hl
theorem V.behind_v (C : Cx p s m args meth c cc nL own D tys A) {isC isR pm : List Nat} {W0 : va_W} {S : Type} {post : S → Prop} {W1 ws2 : S → va_W} {mc ms : Nat} {a : Array Value}
    (hC : pickW ws isC = W0) (hbC : ∀ i ∈ isC, i < ws.length) (hbR : ∀ i ∈ isR, i < ws.length) (hnR : va_nd isR = true) (hdis : ∀ i ∈ isR, i ∉ isC) (hw : ∀ u, pickW (pickW ws isR ++ W1 u) pm = ws2 u) (hbP : ∀ u, ∀ i ∈ pm, i < (pickW ws isR ++ W1 u).length) (hnP : va_nd pm = true)
    (hrun : ∀ (H : Heap) (locs : List Loc) (ls : Array Slot), va_P D vwCl ws H → va_D A ws → va_S A s.heap H locs → lv_has ls nL lv → va_Run p l e R s m args below meth c H locs cells slots mc ms (F0 m pc ls st) rest (va_Qv post (fun u t => va_P D vwCl (W1 u) t.heap ∧ va_K D vwCl tys.1 t ∧ va_D (va_A W0 H.size) (W1 u)) (va_A W0 H.size) a) (va_A W0 H.size))
    (hn : pc + 3 = n) (k : ∀ u : S, post u → V p l e R s m args below meth c nL D A (cells + mc) (slots + ms) Q (ws2 u) lv n rest) : V p l e R s m args below meth c nL D A cells slots Q ws lv pc st := by
  subst hn
  intro H locs ls hP hD hS hl
  have hm : isC.map (fun i => ws[i]?) = W0.map some := by rw [← hC]; exact pickW_map hbC
  have hF := va_free hD hS C.2.2.2.2.2.2.1 isC hm
  refine va_callv (hrun H locs ls hP hD hS hl) hS (fun q _ h => hF q h) hF (fun u t H1 locs1 ht hvm hpost hB hz hk hS1 => ?_)
  obtain ⟨hP1, hK1, hD1⟩ := hB
  rw [ht] at hP1
  obtain ⟨hP2, hD2⟩ := va_join (wr := pickW ws isR) hP hD isC isR hm (pickW_map hbR) hnR hdis hk hF hP1 hD1
  have k2 := k u hpost
  rw [← hw u] at k2
  exact k2 H1 locs1 ls (hP2.sub pm rfl) (hD2.sub pm hnP (pickW_map (hbP u))) hS1 hl
theorem V.callV_i (C : Cx p s m args meth c cc nL own D tys A) {M : MI} {rm : Room} {As : List Value} {b : Nat} {W0 : va_W} {nA idx : Nat} {W1 : va_W} {R' : Int32} {qr ci N : Nat} {T : u_T} {fs : List Value} (hM : CI l D tys M rm (.ref b :: As) W0 R' W1) (cw : cwv own idx M nA) (isC isR pm : List Nat) (hrc : W0[qr]? = some (b, .inr (ci, fs))) (hcl : vwCl[ci]? = some (M.1.cls, T, N)) (hC : pickW ws isC = W0) (hbC : ∀ i ∈ isC, i < ws.length) (hnC : va_nd isC = true) (hbR : ∀ i ∈ isR, i < ws.length) (hnR : va_nd isR = true) (hdis : ∀ i ∈ isR, i ∉ isC) (hw : pickW (pickW ws isR ++ W1) pm = ws') (hbP : ∀ i ∈ pm, i < (pickW ws isR ++ W1).length) (hnP : va_nd pm = true) (hrm : rm.cells = 0 ∧ rm.slots = 0) (hR : rm.frames + 1 ≤ R.frames ∧ 8 + (M.2.2.1 + 11) + rm.locals ≤ R.locals) (hcs : cells + 0 ≤ R.cells ∧ slots + 0 ≤ R.slots) (hnA : As.length = nA) (hst : st = As.reverse ++ .ref b :: rest) (hro : (rest.map fun v => v.category).sum ≤ 8) (hdg : decode cc pc = .ok (.invokevirtual idx, 3)) (hn : pc + 3 = n) (k : V p l e R s m args below meth c nL D A cells slots Q ws' lv n (.int R' :: rest)) : V p l e R s m args below meth c nL D A cells slots Q ws lv pc st := by
  subst hst
  refine V.behind_i C (a := ((.ref b :: As)).toArray) (isC := isC) (isR := isR) (pm := pm) hC hbC hbR hnR hdis hw hbP hnP (fun H locs ls hP hD hS hl => ?_) hn k
  obtain ⟨w1, w2, w3, w4, w5, w6⟩ := cw
  have hc2 : CallB R s args own idx M.1 M.2.1 M.2.2.1 M.2.2.2 (.code M.1 M.2.1 M.2.2.1 M.2.2.2 :: wT) rm 0 0 nA := callB_of nA C.2.2.2.2.1 (good_cons w5) rfl hrm.1 hrm.2 (C.2.2.2.2.1 _ w4) (C.2.2.2.2.1 _ w1) w6 hR
  exact va_runV ⟨C.1, C.2.1, C.2.2.1, C.2.2.2.1, C.2.2.2.2.1⟩ (hM H.size) ⟨hc2, C.2.2.2.2.1 _ w2, C.2.2.2.2.1 _ w3⟩ ⟨pre_blind, va_recv C.2.2.2.2.2.1 (hP.sub isC hC) hcl hrc, pre_at C (As := (.ref b :: As)) hP hD hS hC hbC hnC⟩ rfl hnA hl.1 rfl (lv_room hro) hdg hcs
theorem V.callV_v (C : Cx p s m args meth c cc nL own D tys A) {M : MI} {rm : Room} {As : List Value} {b : Nat} {W0 : va_W} {nA idx : Nat} {S : Type} {post : S → Prop} {W1 ws2 : S → va_W} {mc ms : Nat} {qr ci N : Nat} {T : u_T} {fs : List Value} (hM : CN l D tys M rm (.ref b :: As) W0 post W1 mc ms) (cw : cwv own idx M nA) (isC isR pm : List Nat) (hrc : W0[qr]? = some (b, .inr (ci, fs))) (hcl : vwCl[ci]? = some (M.1.cls, T, N)) (hC : pickW ws isC = W0) (hbC : ∀ i ∈ isC, i < ws.length) (hnC : va_nd isC = true) (hbR : ∀ i ∈ isR, i < ws.length) (hnR : va_nd isR = true) (hdis : ∀ i ∈ isR, i ∉ isC) (hw : ∀ u, pickW (pickW ws isR ++ W1 u) pm = ws2 u) (hbP : ∀ u, ∀ i ∈ pm, i < (pickW ws isR ++ W1 u).length) (hnP : va_nd pm = true) (hrm : rm.cells = mc ∧ rm.slots = ms) (hR : rm.frames + 1 ≤ R.frames ∧ 8 + (M.2.2.1 + 11) + rm.locals ≤ R.locals) (hcs : cells + mc ≤ R.cells ∧ slots + ms ≤ R.slots) (hnA : As.length = nA) (hst : st = As.reverse ++ .ref b :: rest) (hro : (rest.map fun v => v.category).sum ≤ 8) (hdg : decode cc pc = .ok (.invokevirtual idx, 3)) (hn : pc + 3 = n) (k : ∀ u : S, post u → V p l e R s m args below meth c nL D A (cells + mc) (slots + ms) Q (ws2 u) lv n rest) : V p l e R s m args below meth c nL D A cells slots Q ws lv pc st := by
  subst hst
  refine V.behind_v C (a := ((.ref b :: As)).toArray) (isC := isC) (isR := isR) (pm := pm) hC hbC hbR hnR hdis hw hbP hnP (fun H locs ls hP hD hS hl => ?_) hn k
  obtain ⟨w1, w2, w3, w4, w5, w6⟩ := cw
  have hc2 : CallB R s args own idx M.1 M.2.1 M.2.2.1 M.2.2.2 (.code M.1 M.2.1 M.2.2.1 M.2.2.2 :: wT) rm mc ms nA := callB_of nA C.2.2.2.2.1 (good_cons w5) rfl hrm.1 hrm.2 (C.2.2.2.2.1 _ w4) (C.2.2.2.2.1 _ w1) w6 hR
  exact va_runV ⟨C.1, C.2.1, C.2.2.1, C.2.2.2.1, C.2.2.2.2.1⟩ (hM H.size) ⟨hc2, C.2.2.2.2.1 _ w2, C.2.2.2.2.1 _ w3⟩ ⟨pre_blind, va_recv C.2.2.2.2.2.1 (hP.sub isC hC) hcl hrc, pre_at C (As := (.ref b :: As)) hP hD hS hC hbC hnC⟩ rfl hnA hl.1 rfl (lv_room hro) hdg hcs
theorem V.callK_i (C : Cx p s m args meth c cc nL own D tys A) {M : MI} {rm : Room} {As : List Value} {b : Nat} {W0 : va_W} {nA idx : Nat} {W1 : va_W} {R' : Int32} (hM : CI l D tys M rm (.ref b :: As) W0 R' W1) (cw : cwv own idx M nA) (isC isR pm : List Nat) (hrk : ∀ (H : Heap) (locs : List Loc), va_S A s.heap H locs → ∃ cell : Cell, H[b]? = some cell ∧ cell.vm.isStatics = false ∧ s.vm.findClass M.1.cls = some cell.cls) (hC : pickW ws isC = W0) (hbC : ∀ i ∈ isC, i < ws.length) (hnC : va_nd isC = true) (hbR : ∀ i ∈ isR, i < ws.length) (hnR : va_nd isR = true) (hdis : ∀ i ∈ isR, i ∉ isC) (hw : pickW (pickW ws isR ++ W1) pm = ws') (hbP : ∀ i ∈ pm, i < (pickW ws isR ++ W1).length) (hnP : va_nd pm = true) (hrm : rm.cells = 0 ∧ rm.slots = 0) (hR : rm.frames + 1 ≤ R.frames ∧ 8 + (M.2.2.1 + 11) + rm.locals ≤ R.locals) (hcs : cells + 0 ≤ R.cells ∧ slots + 0 ≤ R.slots) (hnA : As.length = nA) (hst : st = As.reverse ++ .ref b :: rest) (hro : (rest.map fun v => v.category).sum ≤ 8) (hdg : decode cc pc = .ok (.invokevirtual idx, 3)) (hn : pc + 3 = n) (k : V p l e R s m args below meth c nL D A cells slots Q ws' lv n (.int R' :: rest)) : V p l e R s m args below meth c nL D A cells slots Q ws lv pc st := by
  subst hst
  refine V.behind_i C (a := ((.ref b :: As)).toArray) (isC := isC) (isR := isR) (pm := pm) hC hbC hbR hnR hdis hw hbP hnP (fun H locs ls hP hD hS hl => ?_) hn k
  obtain ⟨w1, w2, w3, w4, w5, w6⟩ := cw
  have hc2 : CallB R s args own idx M.1 M.2.1 M.2.2.1 M.2.2.2 (.code M.1 M.2.1 M.2.2.1 M.2.2.2 :: wT) rm 0 0 nA := callB_of nA C.2.2.2.2.1 (good_cons w5) rfl hrm.1 hrm.2 (C.2.2.2.2.1 _ w4) (C.2.2.2.2.1 _ w1) w6 hR
  exact va_runV ⟨C.1, C.2.1, C.2.2.1, C.2.2.2.1, C.2.2.2.2.1⟩ (hM H.size) ⟨hc2, C.2.2.2.2.1 _ w2, C.2.2.2.2.1 _ w3⟩ ⟨pre_blind, hrk H locs hS, pre_at C (As := (.ref b :: As)) hP hD hS hC hbC hnC⟩ rfl hnA hl.1 rfl (lv_room hro) hdg hcs
theorem V.callS_i (C : Cx p s m args meth c cc nL own D tys A) {M : MI} {rm : Room} {As : List Value} {W0 : va_W} {nA idx : Nat} {W1 : va_W} {R' : Int32} (hM : CI l D tys M rm As W0 R' W1) (cw : cws own idx M nA) (isC isR pm : List Nat) (hC : pickW ws isC = W0) (hbC : ∀ i ∈ isC, i < ws.length) (hnC : va_nd isC = true) (hbR : ∀ i ∈ isR, i < ws.length) (hnR : va_nd isR = true) (hdis : ∀ i ∈ isR, i ∉ isC) (hw : pickW (pickW ws isR ++ W1) pm = ws') (hbP : ∀ i ∈ pm, i < (pickW ws isR ++ W1).length) (hnP : va_nd pm = true) (hrm : rm.cells = 0 ∧ rm.slots = 0) (hR : rm.frames + 1 ≤ R.frames ∧ 8 + (M.2.2.1 + 11) + rm.locals ≤ R.locals) (hcs : cells + 0 ≤ R.cells ∧ slots + 0 ≤ R.slots) (hnA : As.length = nA) (hst : st = As.reverse ++ rest) (hro : (rest.map fun v => v.category).sum ≤ 8) (hdg : decode cc pc = .ok (.invokestatic idx, 3)) (hn : pc + 3 = n) (k : V p l e R s m args below meth c nL D A cells slots Q ws' lv n (.int R' :: rest)) : V p l e R s m args below meth c nL D A cells slots Q ws lv pc st := by
  subst hst
  refine V.behind_i C (a := (As).toArray) (isC := isC) (isR := isR) (pm := pm) hC hbC hbR hnR hdis hw hbP hnP (fun H locs ls hP hD hS hl => ?_) hn k
  obtain ⟨w1, w2, w4, w5, w6⟩ := cw
  have hc2 : CallB R s args own idx M.1 M.2.1 M.2.2.1 M.2.2.2 (.code M.1 M.2.1 M.2.2.1 M.2.2.2 :: wT) rm 0 0 nA := callB_of nA C.2.2.2.2.1 (good_cons w5) rfl hrm.1 hrm.2 (C.2.2.2.2.1 _ w4) (C.2.2.2.2.1 _ w1) w6 hR
  exact va_runS ⟨C.1, C.2.1, C.2.2.1, C.2.2.2.1, C.2.2.2.2.1⟩ (hM H.size) ⟨hc2, C.2.2.2.2.1 _ w2⟩ ⟨pre_blind, pre_at C (As := As) hP hD hS hC hbC hnC⟩ rfl hnA hl.1 rfl (lv_room hro) hdg hcs
theorem V.callS_v (C : Cx p s m args meth c cc nL own D tys A) {M : MI} {rm : Room} {As : List Value} {W0 : va_W} {nA idx : Nat} {S : Type} {post : S → Prop} {W1 ws2 : S → va_W} {mc ms : Nat} (hM : CN l D tys M rm As W0 post W1 mc ms) (cw : cws own idx M nA) (isC isR pm : List Nat) (hC : pickW ws isC = W0) (hbC : ∀ i ∈ isC, i < ws.length) (hnC : va_nd isC = true) (hbR : ∀ i ∈ isR, i < ws.length) (hnR : va_nd isR = true) (hdis : ∀ i ∈ isR, i ∉ isC) (hw : ∀ u, pickW (pickW ws isR ++ W1 u) pm = ws2 u) (hbP : ∀ u, ∀ i ∈ pm, i < (pickW ws isR ++ W1 u).length) (hnP : va_nd pm = true) (hrm : rm.cells = mc ∧ rm.slots = ms) (hR : rm.frames + 1 ≤ R.frames ∧ 8 + (M.2.2.1 + 11) + rm.locals ≤ R.locals) (hcs : cells + mc ≤ R.cells ∧ slots + ms ≤ R.slots) (hnA : As.length = nA) (hst : st = As.reverse ++ rest) (hro : (rest.map fun v => v.category).sum ≤ 8) (hdg : decode cc pc = .ok (.invokestatic idx, 3)) (hn : pc + 3 = n) (k : ∀ u : S, post u → V p l e R s m args below meth c nL D A (cells + mc) (slots + ms) Q (ws2 u) lv n rest) : V p l e R s m args below meth c nL D A cells slots Q ws lv pc st := by
  subst hst
  refine V.behind_v C (a := (As).toArray) (isC := isC) (isR := isR) (pm := pm) hC hbC hbR hnR hdis hw hbP hnP (fun H locs ls hP hD hS hl => ?_) hn k
  obtain ⟨w1, w2, w4, w5, w6⟩ := cw
  have hc2 : CallB R s args own idx M.1 M.2.1 M.2.2.1 M.2.2.2 (.code M.1 M.2.1 M.2.2.1 M.2.2.2 :: wT) rm mc ms nA := callB_of nA C.2.2.2.2.1 (good_cons w5) rfl hrm.1 hrm.2 (C.2.2.2.2.1 _ w4) (C.2.2.2.2.1 _ w1) w6 hR
  exact va_runS ⟨C.1, C.2.1, C.2.2.1, C.2.2.2.1, C.2.2.2.2.1⟩ (hM H.size) ⟨hc2, C.2.2.2.2.1 _ w2⟩ ⟨pre_blind, pre_at C (As := As) hP hD hS hC hbC hnC⟩ rfl hnA hl.1 rfl (lv_room hro) hdg hcs
theorem V.callSN_i (C : Cx p s m args meth c cc nL own D tys A) {M : MI} {rm : Room} {As : List Value} {host : String} {W0 : va_W} {nA idx : Nat} {W1 : va_W} {R' : Int32} (hM : CI l D tys M rm As W0 R' W1) (cw : cwsN own idx M nA host) (isC isR pm : List Nat) (hC : pickW ws isC = W0) (hbC : ∀ i ∈ isC, i < ws.length) (hnC : va_nd isC = true) (hbR : ∀ i ∈ isR, i < ws.length) (hnR : va_nd isR = true) (hdis : ∀ i ∈ isR, i ∉ isC) (hw : pickW (pickW ws isR ++ W1) pm = ws') (hbP : ∀ i ∈ pm, i < (pickW ws isR ++ W1).length) (hnP : va_nd pm = true) (hrm : rm.cells = 0 ∧ rm.slots = 0) (hR : rm.frames + 1 ≤ R.frames ∧ 8 + (M.2.2.1 + 11) + rm.locals ≤ R.locals) (hcs : cells + 0 ≤ R.cells ∧ slots + 0 ≤ R.slots) (hnA : As.length = nA) (hst : st = As.reverse ++ rest) (hro : (rest.map fun v => v.category).sum ≤ 8) (hdg : decode cc pc = .ok (.invokestatic idx, 3)) (hn : pc + 3 = n) (k : V p l e R s m args below meth c nL D A cells slots Q ws' lv n (.int R' :: rest)) : V p l e R s m args below meth c nL D A cells slots Q ws lv pc st := by
  subst hst
  refine V.behind_i C (a := (As).toArray) (isC := isC) (isR := isR) (pm := pm) hC hbC hbR hnR hdis hw hbP hnP (fun H locs ls hP hD hS hl => ?_) hn k
  obtain ⟨w1, w2, w4, w5, w6⟩ := cw
  have hc2 : va_CN R s args own idx M.1 host M.2.1 M.2.2.1 M.2.2.2 (.code M.1 M.2.1 M.2.2.1 M.2.2.2 :: wT) rm 0 0 nA := va_cnB nA C.2.2.2.2.1 (good_cons w5) rfl hrm.1 hrm.2 (C.2.2.2.2.2.2.2.2.1 _ w1) (C.2.2.2.2.1 _ w4) w6 hR
  exact va_runSN ⟨C.1, C.2.1, C.2.2.1, C.2.2.2.1, C.2.2.2.2.1⟩ (hM H.size) ⟨hc2, C.2.2.2.2.1 _ w2, trivial⟩ ⟨pre_blind, pre_at C (As := As) hP hD hS hC hbC hnC⟩ rfl hnA hl.1 rfl (lv_room hro) hdg hcs
theorem V.callI_v (C : Cx p s m args meth c cc nL own D tys A) {M : MI} {rm : Room} {As : List Value} {b : Nat} {W0 : va_W} {nA idx : Nat} {S : Type} {post : S → Prop} {W1 ws2 : S → va_W} {mc ms : Nat} (hM : CN l D tys M rm (.ref b :: As) W0 post W1 mc ms) (cw : cwi own idx M nA) (isC isR pm : List Nat) (hret : M.2.2.2 = none) (hC : pickW ws isC = W0) (hbC : ∀ i ∈ isC, i < ws.length) (hnC : va_nd isC = true) (hbR : ∀ i ∈ isR, i < ws.length) (hnR : va_nd isR = true) (hdis : ∀ i ∈ isR, i ∉ isC) (hw : ∀ u, pickW (pickW ws isR ++ W1 u) pm = ws2 u) (hbP : ∀ u, ∀ i ∈ pm, i < (pickW ws isR ++ W1 u).length) (hnP : va_nd pm = true) (hrm : rm.cells = mc ∧ rm.slots = ms) (hR : rm.frames + 1 ≤ R.frames ∧ 8 + (M.2.2.1 + 11) + rm.locals ≤ R.locals) (hcs : cells + mc ≤ R.cells ∧ slots + ms ≤ R.slots) (hnA : As.length = nA) (hst : st = As.reverse ++ .ref b :: rest) (hro : (rest.map fun v => v.category).sum ≤ 8) (hdg : decode cc pc = .ok (.invokespecial idx, 3)) (hn : pc + 3 = n) (k : ∀ u : S, post u → V p l e R s m args below meth c nL D A (cells + mc) (slots + ms) Q (ws2 u) lv n rest) : V p l e R s m args below meth c nL D A cells slots Q ws lv pc st := by
  subst hst
  refine V.behind_v C (a := ((.ref b :: As)).toArray) (isC := isC) (isR := isR) (pm := pm) hC hbC hbR hnR hdis hw hbP hnP (fun H locs ls hP hD hS hl => ?_) hn k
  obtain ⟨y9, b9, n9, r9⟩ := M
  cases hret
  obtain ⟨w1, w2, w4, w5, w7, w6⟩ := cw
  have hc2 : CallB R s args own idx y9 b9 n9 none (.code y9 b9 n9 none :: wT) rm mc ms nA := callB_of nA C.2.2.2.2.1 (good_cons w5) rfl hrm.1 hrm.2 (C.2.2.2.2.1 _ w4) (C.2.2.2.2.1 _ w1) w6 hR
  exact va_runI ⟨C.1, C.2.1, C.2.2.1, C.2.2.2.1, C.2.2.2.2.1⟩ (hM H.size) ⟨hc2, w7, C.2.2.2.2.1 _ w2⟩ ⟨pre_blind, pre_at C (As := (.ref b :: As)) hP hD hS hC hbC hnC⟩ rfl hnA hl.1 rfl (lv_room hro) hdg hcs
theorem V.callIN_v (C : Cx p s m args meth c cc nL own D tys A) {M : MI} {rm : Room} {As : List Value} {b : Nat} {host : String} {W0 : va_W} {nA idx : Nat} {S : Type} {post : S → Prop} {W1 ws2 : S → va_W} {mc ms : Nat} (hM : CN l D tys M rm (.ref b :: As) W0 post W1 mc ms) (cw : cwiN own idx M nA host) (isC isR pm : List Nat) (hret : M.2.2.2 = none) (hC : pickW ws isC = W0) (hbC : ∀ i ∈ isC, i < ws.length) (hnC : va_nd isC = true) (hbR : ∀ i ∈ isR, i < ws.length) (hnR : va_nd isR = true) (hdis : ∀ i ∈ isR, i ∉ isC) (hw : ∀ u, pickW (pickW ws isR ++ W1 u) pm = ws2 u) (hbP : ∀ u, ∀ i ∈ pm, i < (pickW ws isR ++ W1 u).length) (hnP : va_nd pm = true) (hrm : rm.cells = mc ∧ rm.slots = ms) (hR : rm.frames + 1 ≤ R.frames ∧ 8 + (M.2.2.1 + 11) + rm.locals ≤ R.locals) (hcs : cells + mc ≤ R.cells ∧ slots + ms ≤ R.slots) (hnA : As.length = nA) (hst : st = As.reverse ++ .ref b :: rest) (hro : (rest.map fun v => v.category).sum ≤ 8) (hdg : decode cc pc = .ok (.invokespecial idx, 3)) (hn : pc + 3 = n) (k : ∀ u : S, post u → V p l e R s m args below meth c nL D A (cells + mc) (slots + ms) Q (ws2 u) lv n rest) : V p l e R s m args below meth c nL D A cells slots Q ws lv pc st := by
  subst hst
  refine V.behind_v C (a := ((.ref b :: As)).toArray) (isC := isC) (isR := isR) (pm := pm) hC hbC hbR hnR hdis hw hbP hnP (fun H locs ls hP hD hS hl => ?_) hn k
  obtain ⟨y9, b9, n9, r9⟩ := M
  cases hret
  obtain ⟨w1, w2, w4, w5, w7, w6⟩ := cw
  have hc2 : va_CN R s args own idx y9 host b9 n9 none (.code y9 b9 n9 none :: wT) rm mc ms nA := va_cnB nA C.2.2.2.2.1 (good_cons w5) rfl hrm.1 hrm.2 (C.2.2.2.2.2.2.2.2.1 _ w1) (C.2.2.2.2.1 _ w4) w6 hR
  exact va_runIN ⟨C.1, C.2.1, C.2.2.1, C.2.2.2.1, C.2.2.2.2.1⟩ (hM H.size) ⟨hc2, w7, C.2.2.2.2.1 _ w2⟩ ⟨pre_blind, pre_at C (As := (.ref b :: As)) hP hD hS hC hbC hnC⟩ rfl hnA hl.1 rfl (lv_room hro) hdg hcs
theorem V.iret {W0 W1 : va_W} {R' v : Int32} (C : Cx p s m args meth c cc nL own D tys (va_A W0 s.heap.size)) (hr : meth.sig.returnType = some .int) (hdg : decode cc pc = .ok (.ireturn, 1)) (hv : v = R') (hw : ws = W1) : V p l e R s m args below meth c nL D (va_A W0 s.heap.size) cells slots (MQ below (va_Qi (fun (r : Int32) (_ : Unit) => r = R') (fun _ t => va_P D vwCl W1 t.heap ∧ va_K D vwCl tys.1 t ∧ va_D (va_A W0 s.heap.size) W1) (va_A W0 s.heap.size)) args s cells slots (va_A W0 s.heap.size)) ws lv pc [.int v] := by
  subst hv
  subst hw
  intro H locs ls hP hD hS hl
  exact W.iret C.1 C.2.1 hr (fun t ht hW => ⟨⟨_, (), rfl, rfl, by rw [ht]; exact hP, va_K.moved hW.alike C.2.2.2.2.2.1, hD⟩, hS.F ht⟩) hS.2.2 hdg C.2.2.2.2.2.2.2.1
theorem V.zret {W0 W1 : va_W} {R' v : Int32} (C : Cx p s m args meth c cc nL own D tys (va_A W0 s.heap.size)) {ty : FieldType} (hr : meth.sig.returnType = some ty) (hnar : narrow ty (.int R') = .int R') (hdg : decode cc pc = .ok (.ireturn, 1)) (hv : v = R') (hw : ws = W1) : V p l e R s m args below meth c nL D (va_A W0 s.heap.size) cells slots (MQ below (va_Qi (fun (r : Int32) (_ : Unit) => r = R') (fun _ t => va_P D vwCl W1 t.heap ∧ va_K D vwCl tys.1 t ∧ va_D (va_A W0 s.heap.size) W1) (va_A W0 s.heap.size)) args s cells slots (va_A W0 s.heap.size)) ws lv pc [.int v] := by
  subst hv
  subst hw
  intro H locs ls hP hD hS hl
  exact W.zret C.1 C.2.1 hr hnar (fun t ht hW => ⟨⟨_, (), rfl, rfl, by rw [ht]; exact hP, va_K.moved hW.alike C.2.2.2.2.2.1, hD⟩, hS.F ht⟩) hS.2.2 hdg C.2.2.2.2.2.2.2.1
theorem V.vret {W0 : va_W} {S : Type} {post : S → Prop} {W1 : S → va_W} (C : Cx p s m args meth c cc nL own D tys (va_A W0 s.heap.size)) (hr : meth.sig.returnType = none) (hdg : decode cc pc = .ok (.return_, 1)) (u : S) (hu : post u) (hw : ws = W1 u) : V p l e R s m args below meth c nL D (va_A W0 s.heap.size) cells slots (MQ below (va_Qv post (fun u t => va_P D vwCl (W1 u) t.heap ∧ va_K D vwCl tys.1 t ∧ va_D (va_A W0 s.heap.size) (W1 u)) (va_A W0 s.heap.size)) args s cells slots (va_A W0 s.heap.size)) ws lv pc [] := by
  subst hw
  intro H locs ls hP hD hS hl
  exact W.vret C.1 C.2.1 hr (fun t ht hW => ⟨⟨u, rfl, hu, by rw [ht]; exact hP, va_K.moved hW.alike C.2.2.2.2.2.1, hD⟩, hS.F ht⟩) hS.2.2 hdg C.2.2.2.2.2.2.2.1
end VR
/-- a contract out of a walk -/
theorem CI.of {l : Launch} {D : va_G} {tys : TyS} {y : MethodName} {cc : ByteArray} {nL : Nat} {ret : Option FieldType} {rm : Room} {As : List Value} {W0 : va_W} {R' : Int32} {W1 : va_W} (hy : plainName y.cls = true) (hn : (lg_sl As).length ≤ nL)
    (body : ∀ (p : Program) (e : Env) (s : State) (m : MethodId) (args : Array Value) (below : List Frame) (meth : Method) (c : Code), Cx p s m args meth c cc nL y.cls D tys (va_A W0 s.heap.size) → meth.sig.returnType = ret → V p l e rm s m args below meth c nL D (va_A W0 s.heap.size) 0 0 (MQ below (va_Qi (fun (r : Int32) (_ : Unit) => r = R') (fun _ t => va_P D vwCl W1 t.heap ∧ va_K D vwCl tys.1 t ∧ va_D (va_A W0 s.heap.size) W1) (va_A W0 s.heap.size)) args s 0 0 (va_A W0 s.heap.size)) W0 (lv_args 0 As) 0 []) :
    CI l D tys (y, cc, nL, ret) rm As W0 R' W1 := by
  intro sz
  refine Met.ofW (cc := cc) (maxL := nL) (ret := ret) hy rfl ?_
  intro p e s m args below meth c s₁ B hml hv
  obtain ⟨rfl, hsz, hP, hK, hD0, hF⟩ := hv
  subst hsz
  have hts := atoms_spec (ws := (.code y cc nL ret :: wT)) B.pre
  have hl := lv_entry As (n := nL) hn
  rw [lg_entry_eq]
  exact body p e s m As.toArray below meth c ⟨B.exec, B.bytes, hml, findClass_of_methodNamed B.named, fun w h => hts w (List.mem_cons_of_mem _ h), hK, fun q h => Or.inr h, B.notSynchronized, hF⟩ B.returns s.heap [] _ hP hD0.self va_S.rf hl
theorem CN.of {l : Launch} {D : va_G} {tys : TyS} {y : MethodName} {cc : ByteArray} {nL : Nat} {ret : Option FieldType} {rm : Room} {As : List Value} {W0 : va_W} {S : Type} {post : S → Prop} {W1 : S → va_W} {mc ms : Nat} (hy : plainName y.cls = true) (hn : (lg_sl As).length ≤ nL)
    (body : ∀ (p : Program) (e : Env) (s : State) (m : MethodId) (args : Array Value) (below : List Frame) (meth : Method) (c : Code), Cx p s m args meth c cc nL y.cls D tys (va_A W0 s.heap.size) → meth.sig.returnType = ret → meth.name = y.name → V p l e rm s m args below meth c nL D (va_A W0 s.heap.size) 0 0 (MQ below (va_Qv post (fun u t => va_P D vwCl (W1 u) t.heap ∧ va_K D vwCl tys.1 t ∧ va_D (va_A W0 s.heap.size) (W1 u)) (va_A W0 s.heap.size)) args s mc ms (va_A W0 s.heap.size)) W0 (lv_args 0 As) 0 []) :
    CN l D tys (y, cc, nL, ret) rm As W0 post W1 mc ms := by
  intro sz
  refine Met.ofW (cc := cc) (maxL := nL) (ret := ret) hy rfl ?_
  intro p e s m args below meth c s₁ B hml hv
  obtain ⟨rfl, hsz, hP, hK, hD0, hF⟩ := hv
  subst hsz
  have hts := atoms_spec (ws := (.code y cc nL ret :: wT)) B.pre
  have hl := lv_entry As (n := nL) hn
  rw [lg_entry_eq]
  exact body p e s m As.toArray below meth c ⟨B.exec, B.bytes, hml, findClass_of_methodNamed B.named, fun w h => hts w (List.mem_cons_of_mem _ h), hK, fun q h => Or.inr h, B.notSynchronized, hF⟩ B.returns (name_of_methodNamed B.named B.method).1 s.heap [] _ hP hD0.self va_S.rf hl
/-- a contract that is spoken of otherwise -/
theorem CI.to {l : Launch} {D : va_G} {tys : TyS} {M : MI} {rm : Room} {As : List Value} {W0 W1 W2 : va_W} {R1 R2 : Int32} (h : CI l D tys M rm As W0 R1 W1) (hR : R1 = R2) (hW : W1 = W2) : CI l D tys M rm As W0 R2 W2 := by subst hR; subst hW; exact h
end
section
abbrev y_T_init : MethodName := ⟨"FrameTables$Table", "<init>", "()V"⟩
abbrev m_T_init : MethodName × ByteArray × Nat × Option FieldType := (y_T_init, prog_5_method_1_code, 1, none)
theorem mi_T_init : .code y_T_init prog_5_method_1_code 1 none ∈ wT := wT_m 65 (by decide +kernel) rfl
theorem d_T_init_0 : decode prog_5_method_1_code 0 = .ok (.aload_n 0, 1) := by decide +kernel
theorem d_T_init_1 : decode prog_5_method_1_code 1 = .ok (.invokespecial 3, 3) := by decide +kernel
theorem d_T_init_4 : decode prog_5_method_1_code 4 = .ok (.aload_n 0, 1) := by decide +kernel
theorem d_T_init_5 : decode prog_5_method_1_code 5 = .ok (.bipush 41, 2) := by decide +kernel
theorem d_T_init_7 : decode prog_5_method_1_code 7 = .ok (.newarray .int, 2) := by decide +kernel
theorem d_T_init_9 : decode prog_5_method_1_code 9 = .ok (.putfield 9, 3) := by decide +kernel
theorem d_T_init_12 : decode prog_5_method_1_code 12 = .ok (.aload_n 0, 1) := by decide +kernel
theorem d_T_init_13 : decode prog_5_method_1_code 13 = .ok (.bipush 41, 2) := by decide +kernel
theorem d_T_init_15 : decode prog_5_method_1_code 15 = .ok (.newarray .int, 2) := by decide +kernel
theorem d_T_init_17 : decode prog_5_method_1_code 17 = .ok (.putfield 15, 3) := by decide +kernel
theorem d_T_init_20 : decode prog_5_method_1_code 20 = .ok (.aload_n 0, 1) := by decide +kernel
theorem d_T_init_21 : decode prog_5_method_1_code 21 = .ok (.bipush 41, 2) := by decide +kernel
theorem d_T_init_23 : decode prog_5_method_1_code 23 = .ok (.newarray .int, 2) := by decide +kernel
theorem d_T_init_25 : decode prog_5_method_1_code 25 = .ok (.putfield 18, 3) := by decide +kernel
theorem d_T_init_28 : decode prog_5_method_1_code 28 = .ok (.aload_n 0, 1) := by decide +kernel
theorem d_T_init_29 : decode prog_5_method_1_code 29 = .ok (.bipush 41, 2) := by decide +kernel
theorem d_T_init_31 : decode prog_5_method_1_code 31 = .ok (.newarray .int, 2) := by decide +kernel
theorem d_T_init_33 : decode prog_5_method_1_code 33 = .ok (.putfield 21, 3) := by decide +kernel
theorem d_T_init_36 : decode prog_5_method_1_code 36 = .ok (.aload_n 0, 1) := by decide +kernel
theorem d_T_init_37 : decode prog_5_method_1_code 37 = .ok (.bipush 41, 2) := by decide +kernel
theorem d_T_init_39 : decode prog_5_method_1_code 39 = .ok (.newarray .int, 2) := by decide +kernel
theorem d_T_init_41 : decode prog_5_method_1_code 41 = .ok (.putfield 24, 3) := by decide +kernel
theorem d_T_init_44 : decode prog_5_method_1_code 44 = .ok (.aload_n 0, 1) := by decide +kernel
theorem d_T_init_45 : decode prog_5_method_1_code 45 = .ok (.sipush 861, 3) := by decide +kernel
theorem d_T_init_48 : decode prog_5_method_1_code 48 = .ok (.newarray .int, 2) := by decide +kernel
theorem d_T_init_50 : decode prog_5_method_1_code 50 = .ok (.putfield 27, 3) := by decide +kernel
theorem d_T_init_53 : decode prog_5_method_1_code 53 = .ok (.aload_n 0, 1) := by decide +kernel
theorem d_T_init_54 : decode prog_5_method_1_code 54 = .ok (.iconst 0, 1) := by decide +kernel
theorem d_T_init_55 : decode prog_5_method_1_code 55 = .ok (.putfield 30, 3) := by decide +kernel
theorem d_T_init_58 : decode prog_5_method_1_code 58 = .ok (.return_, 1) := by decide +kernel
abbrev y_S_init : MethodName := ⟨"FrameTables$Spans", "<init>", "()V"⟩
abbrev m_S_init : MethodName × ByteArray × Nat × Option FieldType := (y_S_init, prog_4_method_1_code, 2, none)
theorem mi_S_init : .code y_S_init prog_4_method_1_code 2 none ∈ wT := wT_m 94 (by decide +kernel) rfl
theorem d_S_init_0 : decode prog_4_method_1_code 0 = .ok (.aload_n 0, 1) := by decide +kernel
theorem d_S_init_1 : decode prog_4_method_1_code 1 = .ok (.invokespecial 3, 3) := by decide +kernel
theorem d_S_init_4 : decode prog_4_method_1_code 4 = .ok (.aload_n 0, 1) := by decide +kernel
theorem d_S_init_5 : decode prog_4_method_1_code 5 = .ok (.iconst 4, 1) := by decide +kernel
theorem d_S_init_6 : decode prog_4_method_1_code 6 = .ok (.newarray .int, 2) := by decide +kernel
theorem d_S_init_8 : decode prog_4_method_1_code 8 = .ok (.putfield 9, 3) := by decide +kernel
theorem d_S_init_11 : decode prog_4_method_1_code 11 = .ok (.aload_n 0, 1) := by decide +kernel
theorem d_S_init_12 : decode prog_4_method_1_code 12 = .ok (.iconst 4, 1) := by decide +kernel
theorem d_S_init_13 : decode prog_4_method_1_code 13 = .ok (.newarray .int, 2) := by decide +kernel
theorem d_S_init_15 : decode prog_4_method_1_code 15 = .ok (.putfield 15, 3) := by decide +kernel
theorem d_S_init_18 : decode prog_4_method_1_code 18 = .ok (.iconst 0, 1) := by decide +kernel
theorem d_S_init_19 : decode prog_4_method_1_code 19 = .ok (.istore_n 1, 1) := by decide +kernel
theorem d_S_init_20 : decode prog_4_method_1_code 20 = .ok (.iload_n 1, 1) := by decide +kernel
theorem d_S_init_21 : decode prog_4_method_1_code 21 = .ok (.iconst 4, 1) := by decide +kernel
theorem d_S_init_22 : decode prog_4_method_1_code 22 = .ok (.if_icmp .ge 38, 3) := by decide +kernel
theorem d_S_init_25 : decode prog_4_method_1_code 25 = .ok (.aload_n 0, 1) := by decide +kernel
theorem d_S_init_26 : decode prog_4_method_1_code 26 = .ok (.getfield 9, 3) := by decide +kernel
theorem d_S_init_29 : decode prog_4_method_1_code 29 = .ok (.iload_n 1, 1) := by decide +kernel
theorem d_S_init_30 : decode prog_4_method_1_code 30 = .ok (.iload_n 1, 1) := by decide +kernel
theorem d_S_init_31 : decode prog_4_method_1_code 31 = .ok (.sipush 512, 3) := by decide +kernel
theorem d_S_init_34 : decode prog_4_method_1_code 34 = .ok (.imul, 1) := by decide +kernel
theorem d_S_init_35 : decode prog_4_method_1_code 35 = .ok (.iastore, 1) := by decide +kernel
theorem d_S_init_36 : decode prog_4_method_1_code 36 = .ok (.aload_n 0, 1) := by decide +kernel
theorem d_S_init_37 : decode prog_4_method_1_code 37 = .ok (.getfield 15, 3) := by decide +kernel
theorem d_S_init_40 : decode prog_4_method_1_code 40 = .ok (.iload_n 1, 1) := by decide +kernel
theorem d_S_init_41 : decode prog_4_method_1_code 41 = .ok (.aload_n 0, 1) := by decide +kernel
theorem d_S_init_42 : decode prog_4_method_1_code 42 = .ok (.getfield 9, 3) := by decide +kernel
theorem d_S_init_45 : decode prog_4_method_1_code 45 = .ok (.iload_n 1, 1) := by decide +kernel
theorem d_S_init_46 : decode prog_4_method_1_code 46 = .ok (.iaload, 1) := by decide +kernel
theorem d_S_init_47 : decode prog_4_method_1_code 47 = .ok (.sipush 512, 3) := by decide +kernel
theorem d_S_init_50 : decode prog_4_method_1_code 50 = .ok (.iadd, 1) := by decide +kernel
theorem d_S_init_51 : decode prog_4_method_1_code 51 = .ok (.iconst 1, 1) := by decide +kernel
theorem d_S_init_52 : decode prog_4_method_1_code 52 = .ok (.isub, 1) := by decide +kernel
theorem d_S_init_53 : decode prog_4_method_1_code 53 = .ok (.iastore, 1) := by decide +kernel
theorem d_S_init_54 : decode prog_4_method_1_code 54 = .ok (.iinc 1 1, 3) := by decide +kernel
theorem d_S_init_57 : decode prog_4_method_1_code 57 = .ok (.goto (-37), 3) := by decide +kernel
theorem d_S_init_60 : decode prog_4_method_1_code 60 = .ok (.return_, 1) := by decide +kernel
abbrev y_X_init : MethodName := ⟨"FrameTables$Text", "<init>", "()V"⟩
abbrev m_X_init : MethodName × ByteArray × Nat × Option FieldType := (y_X_init, prog_6_method_1_code, 1, none)
theorem mi_X_init : .code y_X_init prog_6_method_1_code 1 none ∈ wT := wT_m 107 (by decide +kernel) rfl
theorem d_X_init_0 : decode prog_6_method_1_code 0 = .ok (.aload_n 0, 1) := by decide +kernel
theorem d_X_init_1 : decode prog_6_method_1_code 1 = .ok (.invokespecial 3, 3) := by decide +kernel
theorem d_X_init_4 : decode prog_6_method_1_code 4 = .ok (.aload_n 0, 1) := by decide +kernel
theorem d_X_init_5 : decode prog_6_method_1_code 5 = .ok (.sipush 2000, 3) := by decide +kernel
theorem d_X_init_8 : decode prog_6_method_1_code 8 = .ok (.newarray .char, 2) := by decide +kernel
theorem d_X_init_10 : decode prog_6_method_1_code 10 = .ok (.putfield 9, 3) := by decide +kernel
theorem d_X_init_13 : decode prog_6_method_1_code 13 = .ok (.aload_n 0, 1) := by decide +kernel
theorem d_X_init_14 : decode prog_6_method_1_code 14 = .ok (.iconst 0, 1) := by decide +kernel
theorem d_X_init_15 : decode prog_6_method_1_code 15 = .ok (.putfield 15, 3) := by decide +kernel
theorem d_X_init_18 : decode prog_6_method_1_code 18 = .ok (.aload_n 0, 1) := by decide +kernel
theorem d_X_init_19 : decode prog_6_method_1_code 19 = .ok (.iconst 0, 1) := by decide +kernel
theorem d_X_init_20 : decode prog_6_method_1_code 20 = .ok (.putfield 19, 3) := by decide +kernel
theorem d_X_init_23 : decode prog_6_method_1_code 23 = .ok (.return_, 1) := by decide +kernel
abbrev y_T_isFull : MethodName := ⟨"FrameTables$Table", "isFull", "()Z"⟩
abbrev m_T_isFull : MethodName × ByteArray × Nat × Option FieldType := (y_T_isFull, prog_5_method_4_code, 1, some .boolean)
theorem mi_T_isFull : .code y_T_isFull prog_5_method_4_code 1 (some .boolean) ∈ wT := wT_m 211 (by decide +kernel) rfl
theorem d_T_isFull_0 : decode prog_5_method_4_code 0 = .ok (.aload_n 0, 1) := by decide +kernel
theorem d_T_isFull_1 : decode prog_5_method_4_code 1 = .ok (.getfield 30, 3) := by decide +kernel
theorem d_T_isFull_4 : decode prog_5_method_4_code 4 = .ok (.bipush 40, 2) := by decide +kernel
theorem d_T_isFull_6 : decode prog_5_method_4_code 6 = .ok (.if_icmp .lt 7, 3) := by decide +kernel
theorem d_T_isFull_9 : decode prog_5_method_4_code 9 = .ok (.iconst 1, 1) := by decide +kernel
theorem d_T_isFull_10 : decode prog_5_method_4_code 10 = .ok (.goto 4, 3) := by decide +kernel
theorem d_T_isFull_13 : decode prog_5_method_4_code 13 = .ok (.iconst 0, 1) := by decide +kernel
theorem d_T_isFull_14 : decode prog_5_method_4_code 14 = .ok (.ireturn, 1) := by decide +kernel
abbrev y_T_append : MethodName := ⟨"FrameTables$Table", "append", "(IIII)I"⟩
abbrev m_T_append : MethodName × ByteArray × Nat × Option FieldType := (y_T_append, prog_5_method_6_code, 6, some .int)
theorem mi_T_append : .code y_T_append prog_5_method_6_code 6 (some .int) ∈ wT := wT_m 215 (by decide +kernel) rfl
theorem d_T_append_0 : decode prog_5_method_6_code 0 = .ok (.aload_n 0, 1) := by decide +kernel
theorem d_T_append_1 : decode prog_5_method_6_code 1 = .ok (.invokevirtual 34, 3) := by decide +kernel
theorem d_T_append_4 : decode prog_5_method_6_code 4 = .ok (.ifCond .eq 5, 3) := by decide +kernel
theorem d_T_append_7 : decode prog_5_method_6_code 7 = .ok (.iconst (-1), 1) := by decide +kernel
theorem d_T_append_8 : decode prog_5_method_6_code 8 = .ok (.ireturn, 1) := by decide +kernel
theorem d_T_append_9 : decode prog_5_method_6_code 9 = .ok (.aload_n 0, 1) := by decide +kernel
theorem d_T_append_10 : decode prog_5_method_6_code 10 = .ok (.dup, 1) := by decide +kernel
theorem d_T_append_11 : decode prog_5_method_6_code 11 = .ok (.getfield 30, 3) := by decide +kernel
theorem d_T_append_14 : decode prog_5_method_6_code 14 = .ok (.iconst 1, 1) := by decide +kernel
theorem d_T_append_15 : decode prog_5_method_6_code 15 = .ok (.iadd, 1) := by decide +kernel
theorem d_T_append_16 : decode prog_5_method_6_code 16 = .ok (.putfield 30, 3) := by decide +kernel
theorem d_T_append_19 : decode prog_5_method_6_code 19 = .ok (.aload_n 0, 1) := by decide +kernel
theorem d_T_append_20 : decode prog_5_method_6_code 20 = .ok (.getfield 9, 3) := by decide +kernel
theorem d_T_append_23 : decode prog_5_method_6_code 23 = .ok (.aload_n 0, 1) := by decide +kernel
theorem d_T_append_24 : decode prog_5_method_6_code 24 = .ok (.getfield 30, 3) := by decide +kernel
theorem d_T_append_27 : decode prog_5_method_6_code 27 = .ok (.iload_n 1, 1) := by decide +kernel
theorem d_T_append_28 : decode prog_5_method_6_code 28 = .ok (.iastore, 1) := by decide +kernel
theorem d_T_append_29 : decode prog_5_method_6_code 29 = .ok (.aload_n 0, 1) := by decide +kernel
theorem d_T_append_30 : decode prog_5_method_6_code 30 = .ok (.getfield 15, 3) := by decide +kernel
theorem d_T_append_33 : decode prog_5_method_6_code 33 = .ok (.aload_n 0, 1) := by decide +kernel
theorem d_T_append_34 : decode prog_5_method_6_code 34 = .ok (.getfield 30, 3) := by decide +kernel
theorem d_T_append_37 : decode prog_5_method_6_code 37 = .ok (.iload_n 2, 1) := by decide +kernel
theorem d_T_append_38 : decode prog_5_method_6_code 38 = .ok (.iastore, 1) := by decide +kernel
theorem d_T_append_39 : decode prog_5_method_6_code 39 = .ok (.aload_n 0, 1) := by decide +kernel
theorem d_T_append_40 : decode prog_5_method_6_code 40 = .ok (.getfield 18, 3) := by decide +kernel
theorem d_T_append_43 : decode prog_5_method_6_code 43 = .ok (.aload_n 0, 1) := by decide +kernel
theorem d_T_append_44 : decode prog_5_method_6_code 44 = .ok (.getfield 30, 3) := by decide +kernel
theorem d_T_append_47 : decode prog_5_method_6_code 47 = .ok (.iload_n 3, 1) := by decide +kernel
theorem d_T_append_48 : decode prog_5_method_6_code 48 = .ok (.iastore, 1) := by decide +kernel
theorem d_T_append_49 : decode prog_5_method_6_code 49 = .ok (.aload_n 0, 1) := by decide +kernel
theorem d_T_append_50 : decode prog_5_method_6_code 50 = .ok (.getfield 21, 3) := by decide +kernel
theorem d_T_append_53 : decode prog_5_method_6_code 53 = .ok (.aload_n 0, 1) := by decide +kernel
theorem d_T_append_54 : decode prog_5_method_6_code 54 = .ok (.getfield 30, 3) := by decide +kernel
theorem d_T_append_57 : decode prog_5_method_6_code 57 = .ok (.iload 4, 2) := by decide +kernel
theorem d_T_append_59 : decode prog_5_method_6_code 59 = .ok (.iastore, 1) := by decide +kernel
theorem d_T_append_60 : decode prog_5_method_6_code 60 = .ok (.aload_n 0, 1) := by decide +kernel
theorem d_T_append_61 : decode prog_5_method_6_code 61 = .ok (.getfield 24, 3) := by decide +kernel
theorem d_T_append_64 : decode prog_5_method_6_code 64 = .ok (.aload_n 0, 1) := by decide +kernel
theorem d_T_append_65 : decode prog_5_method_6_code 65 = .ok (.getfield 30, 3) := by decide +kernel
theorem d_T_append_68 : decode prog_5_method_6_code 68 = .ok (.iconst 0, 1) := by decide +kernel
theorem d_T_append_69 : decode prog_5_method_6_code 69 = .ok (.iastore, 1) := by decide +kernel
theorem d_T_append_70 : decode prog_5_method_6_code 70 = .ok (.iconst 1, 1) := by decide +kernel
theorem d_T_append_71 : decode prog_5_method_6_code 71 = .ok (.istore 5, 2) := by decide +kernel
theorem d_T_append_73 : decode prog_5_method_6_code 73 = .ok (.iload 5, 2) := by decide +kernel
theorem d_T_append_75 : decode prog_5_method_6_code 75 = .ok (.bipush 20, 2) := by decide +kernel
theorem d_T_append_77 : decode prog_5_method_6_code 77 = .ok (.if_icmp .gt 20, 3) := by decide +kernel
theorem d_T_append_80 : decode prog_5_method_6_code 80 = .ok (.aload_n 0, 1) := by decide +kernel
theorem d_T_append_81 : decode prog_5_method_6_code 81 = .ok (.aload_n 0, 1) := by decide +kernel
theorem d_T_append_82 : decode prog_5_method_6_code 82 = .ok (.getfield 30, 3) := by decide +kernel
theorem d_T_append_85 : decode prog_5_method_6_code 85 = .ok (.iload 5, 2) := by decide +kernel
theorem d_T_append_87 : decode prog_5_method_6_code 87 = .ok (.iconst 0, 1) := by decide +kernel
theorem d_T_append_88 : decode prog_5_method_6_code 88 = .ok (.invokevirtual 38, 3) := by decide +kernel
theorem d_T_append_91 : decode prog_5_method_6_code 91 = .ok (.iinc 5 1, 3) := by decide +kernel
theorem d_T_append_94 : decode prog_5_method_6_code 94 = .ok (.goto (-21), 3) := by decide +kernel
theorem d_T_append_97 : decode prog_5_method_6_code 97 = .ok (.aload_n 0, 1) := by decide +kernel
theorem d_T_append_98 : decode prog_5_method_6_code 98 = .ok (.getfield 30, 3) := by decide +kernel
theorem d_T_append_101 : decode prog_5_method_6_code 101 = .ok (.ireturn, 1) := by decide +kernel
abbrev y_T_setTimeout : MethodName := ⟨"FrameTables$Table", "setTimeout", "(III)V"⟩
abbrev m_T_setTimeout : MethodName × ByteArray × Nat × Option FieldType := (y_T_setTimeout, prog_5_method_16_code, 4, none)
theorem mi_T_setTimeout : .code y_T_setTimeout prog_5_method_16_code 4 none ∈ wT := wT_m 220 (by decide +kernel) rfl
theorem d_T_setTimeout_0 : decode prog_5_method_16_code 0 = .ok (.aload_n 0, 1) := by decide +kernel
theorem d_T_setTimeout_1 : decode prog_5_method_16_code 1 = .ok (.getfield 27, 3) := by decide +kernel
theorem d_T_setTimeout_4 : decode prog_5_method_16_code 4 = .ok (.iload_n 1, 1) := by decide +kernel
theorem d_T_setTimeout_5 : decode prog_5_method_16_code 5 = .ok (.bipush 21, 2) := by decide +kernel
theorem d_T_setTimeout_7 : decode prog_5_method_16_code 7 = .ok (.imul, 1) := by decide +kernel
theorem d_T_setTimeout_8 : decode prog_5_method_16_code 8 = .ok (.iload_n 2, 1) := by decide +kernel
theorem d_T_setTimeout_9 : decode prog_5_method_16_code 9 = .ok (.iadd, 1) := by decide +kernel
theorem d_T_setTimeout_10 : decode prog_5_method_16_code 10 = .ok (.iload_n 3, 1) := by decide +kernel
theorem d_T_setTimeout_11 : decode prog_5_method_16_code 11 = .ok (.iastore, 1) := by decide +kernel
theorem d_T_setTimeout_12 : decode prog_5_method_16_code 12 = .ok (.return_, 1) := by decide +kernel
abbrev y_T_has : MethodName := ⟨"FrameTables$Table", "has", "(I)Z"⟩
abbrev m_T_has : MethodName × ByteArray × Nat × Option FieldType := (y_T_has, prog_5_method_5_code, 2, some .boolean)
theorem mi_T_has : .code y_T_has prog_5_method_5_code 2 (some .boolean) ∈ wT := wT_m 228 (by decide +kernel) rfl
theorem d_T_has_0 : decode prog_5_method_5_code 0 = .ok (.iload_n 1, 1) := by decide +kernel
theorem d_T_has_1 : decode prog_5_method_5_code 1 = .ok (.iconst 1, 1) := by decide +kernel
theorem d_T_has_2 : decode prog_5_method_5_code 2 = .ok (.if_icmp .lt 15, 3) := by decide +kernel
theorem d_T_has_5 : decode prog_5_method_5_code 5 = .ok (.iload_n 1, 1) := by decide +kernel
theorem d_T_has_6 : decode prog_5_method_5_code 6 = .ok (.aload_n 0, 1) := by decide +kernel
theorem d_T_has_7 : decode prog_5_method_5_code 7 = .ok (.getfield 30, 3) := by decide +kernel
theorem d_T_has_10 : decode prog_5_method_5_code 10 = .ok (.if_icmp .gt 7, 3) := by decide +kernel
theorem d_T_has_13 : decode prog_5_method_5_code 13 = .ok (.iconst 1, 1) := by decide +kernel
theorem d_T_has_14 : decode prog_5_method_5_code 14 = .ok (.goto 4, 3) := by decide +kernel
theorem d_T_has_17 : decode prog_5_method_5_code 17 = .ok (.iconst 0, 1) := by decide +kernel
theorem d_T_has_18 : decode prog_5_method_5_code 18 = .ok (.ireturn, 1) := by decide +kernel
abbrev y_T_senderOf : MethodName := ⟨"FrameTables$Table", "senderOf", "(I)I"⟩
abbrev m_T_senderOf : MethodName × ByteArray × Nat × Option FieldType := (y_T_senderOf, prog_5_method_7_code, 2, some .int)
theorem mi_T_senderOf : .code y_T_senderOf prog_5_method_7_code 2 (some .int) ∈ wT := wT_m 232 (by decide +kernel) rfl
theorem d_T_senderOf_0 : decode prog_5_method_7_code 0 = .ok (.aload_n 0, 1) := by decide +kernel
theorem d_T_senderOf_1 : decode prog_5_method_7_code 1 = .ok (.getfield 9, 3) := by decide +kernel
theorem d_T_senderOf_4 : decode prog_5_method_7_code 4 = .ok (.iload_n 1, 1) := by decide +kernel
theorem d_T_senderOf_5 : decode prog_5_method_7_code 5 = .ok (.iaload, 1) := by decide +kernel
theorem d_T_senderOf_6 : decode prog_5_method_7_code 6 = .ok (.ireturn, 1) := by decide +kernel
abbrev y_T_readersOf : MethodName := ⟨"FrameTables$Table", "readersOf", "(I)I"⟩
abbrev m_T_readersOf : MethodName × ByteArray × Nat × Option FieldType := (y_T_readersOf, prog_5_method_19_code, 4, some .int)
theorem mi_T_readersOf : .code y_T_readersOf prog_5_method_19_code 4 (some .int) ∈ wT := wT_m 237 (by decide +kernel) rfl
theorem d_T_readersOf_0 : decode prog_5_method_19_code 0 = .ok (.iconst 0, 1) := by decide +kernel
theorem d_T_readersOf_1 : decode prog_5_method_19_code 1 = .ok (.istore_n 2, 1) := by decide +kernel
theorem d_T_readersOf_2 : decode prog_5_method_19_code 2 = .ok (.iconst 1, 1) := by decide +kernel
theorem d_T_readersOf_3 : decode prog_5_method_19_code 3 = .ok (.istore_n 3, 1) := by decide +kernel
theorem d_T_readersOf_4 : decode prog_5_method_19_code 4 = .ok (.iload_n 3, 1) := by decide +kernel
theorem d_T_readersOf_5 : decode prog_5_method_19_code 5 = .ok (.bipush 20, 2) := by decide +kernel
theorem d_T_readersOf_7 : decode prog_5_method_19_code 7 = .ok (.if_icmp .gt 21, 3) := by decide +kernel
theorem d_T_readersOf_10 : decode prog_5_method_19_code 10 = .ok (.aload_n 0, 1) := by decide +kernel
theorem d_T_readersOf_11 : decode prog_5_method_19_code 11 = .ok (.iload_n 1, 1) := by decide +kernel
theorem d_T_readersOf_12 : decode prog_5_method_19_code 12 = .ok (.iload_n 3, 1) := by decide +kernel
theorem d_T_readersOf_13 : decode prog_5_method_19_code 13 = .ok (.invokevirtual 46, 3) := by decide +kernel
theorem d_T_readersOf_16 : decode prog_5_method_19_code 16 = .ok (.ifCond .eq 6, 3) := by decide +kernel
theorem d_T_readersOf_19 : decode prog_5_method_19_code 19 = .ok (.iinc 2 1, 3) := by decide +kernel
theorem d_T_readersOf_22 : decode prog_5_method_19_code 22 = .ok (.iinc 3 1, 3) := by decide +kernel
theorem d_T_readersOf_25 : decode prog_5_method_19_code 25 = .ok (.goto (-21), 3) := by decide +kernel
theorem d_T_readersOf_28 : decode prog_5_method_19_code 28 = .ok (.iload_n 2, 1) := by decide +kernel
theorem d_T_readersOf_29 : decode prog_5_method_19_code 29 = .ok (.ireturn, 1) := by decide +kernel
abbrev y_T_reads : MethodName := ⟨"FrameTables$Table", "reads", "(II)Z"⟩
abbrev m_T_reads : MethodName × ByteArray × Nat × Option FieldType := (y_T_reads, prog_5_method_17_code, 3, some .boolean)
theorem mi_T_reads : .code y_T_reads prog_5_method_17_code 3 (some .boolean) ∈ wT := wT_m 241 (by decide +kernel) rfl
theorem d_T_reads_0 : decode prog_5_method_17_code 0 = .ok (.aload_n 0, 1) := by decide +kernel
theorem d_T_reads_1 : decode prog_5_method_17_code 1 = .ok (.iload_n 1, 1) := by decide +kernel
theorem d_T_reads_2 : decode prog_5_method_17_code 2 = .ok (.iload_n 2, 1) := by decide +kernel
theorem d_T_reads_3 : decode prog_5_method_17_code 3 = .ok (.invokevirtual 42, 3) := by decide +kernel
theorem d_T_reads_6 : decode prog_5_method_17_code 6 = .ok (.ifCond .le 7, 3) := by decide +kernel
theorem d_T_reads_9 : decode prog_5_method_17_code 9 = .ok (.iconst 1, 1) := by decide +kernel
theorem d_T_reads_10 : decode prog_5_method_17_code 10 = .ok (.goto 4, 3) := by decide +kernel
theorem d_T_reads_13 : decode prog_5_method_17_code 13 = .ok (.iconst 0, 1) := by decide +kernel
theorem d_T_reads_14 : decode prog_5_method_17_code 14 = .ok (.ireturn, 1) := by decide +kernel
abbrev y_T_timeoutOf : MethodName := ⟨"FrameTables$Table", "timeoutOf", "(II)I"⟩
abbrev m_T_timeoutOf : MethodName × ByteArray × Nat × Option FieldType := (y_T_timeoutOf, prog_5_method_15_code, 3, some .int)
theorem mi_T_timeoutOf : .code y_T_timeoutOf prog_5_method_15_code 3 (some .int) ∈ wT := wT_m 245 (by decide +kernel) rfl
theorem d_T_timeoutOf_0 : decode prog_5_method_15_code 0 = .ok (.aload_n 0, 1) := by decide +kernel
theorem d_T_timeoutOf_1 : decode prog_5_method_15_code 1 = .ok (.getfield 27, 3) := by decide +kernel
theorem d_T_timeoutOf_4 : decode prog_5_method_15_code 4 = .ok (.iload_n 1, 1) := by decide +kernel
theorem d_T_timeoutOf_5 : decode prog_5_method_15_code 5 = .ok (.bipush 21, 2) := by decide +kernel
theorem d_T_timeoutOf_7 : decode prog_5_method_15_code 7 = .ok (.imul, 1) := by decide +kernel
theorem d_T_timeoutOf_8 : decode prog_5_method_15_code 8 = .ok (.iload_n 2, 1) := by decide +kernel
theorem d_T_timeoutOf_9 : decode prog_5_method_15_code 9 = .ok (.iadd, 1) := by decide +kernel
theorem d_T_timeoutOf_10 : decode prog_5_method_15_code 10 = .ok (.iaload, 1) := by decide +kernel
theorem d_T_timeoutOf_11 : decode prog_5_method_15_code 11 = .ok (.ireturn, 1) := by decide +kernel
abbrev y_T_kindOf : MethodName := ⟨"FrameTables$Table", "kindOf", "(I)I"⟩
abbrev m_T_kindOf : MethodName × ByteArray × Nat × Option FieldType := (y_T_kindOf, prog_5_method_10_code, 2, some .int)
theorem mi_T_kindOf : .code y_T_kindOf prog_5_method_10_code 2 (some .int) ∈ wT := wT_m 257 (by decide +kernel) rfl
theorem d_T_kindOf_0 : decode prog_5_method_10_code 0 = .ok (.aload_n 0, 1) := by decide +kernel
theorem d_T_kindOf_1 : decode prog_5_method_10_code 1 = .ok (.getfield 18, 3) := by decide +kernel
theorem d_T_kindOf_4 : decode prog_5_method_10_code 4 = .ok (.iload_n 1, 1) := by decide +kernel
theorem d_T_kindOf_5 : decode prog_5_method_10_code 5 = .ok (.iaload, 1) := by decide +kernel
theorem d_T_kindOf_6 : decode prog_5_method_10_code 6 = .ok (.bipush 25, 2) := by decide +kernel
theorem d_T_kindOf_8 : decode prog_5_method_10_code 8 = .ok (.idiv, 1) := by decide +kernel
theorem d_T_kindOf_9 : decode prog_5_method_10_code 9 = .ok (.ireturn, 1) := by decide +kernel
abbrev y_T_placeInKind : MethodName := ⟨"FrameTables$Table", "placeInKind", "(I)I"⟩
abbrev m_T_placeInKind : MethodName × ByteArray × Nat × Option FieldType := (y_T_placeInKind, prog_5_method_20_code, 4, some .int)
theorem mi_T_placeInKind : .code y_T_placeInKind prog_5_method_20_code 4 (some .int) ∈ wT := wT_m 261 (by decide +kernel) rfl
theorem d_T_placeInKind_0 : decode prog_5_method_20_code 0 = .ok (.iconst 0, 1) := by decide +kernel
theorem d_T_placeInKind_1 : decode prog_5_method_20_code 1 = .ok (.istore_n 2, 1) := by decide +kernel
theorem d_T_placeInKind_2 : decode prog_5_method_20_code 2 = .ok (.iconst 1, 1) := by decide +kernel
theorem d_T_placeInKind_3 : decode prog_5_method_20_code 3 = .ok (.istore_n 3, 1) := by decide +kernel
theorem d_T_placeInKind_4 : decode prog_5_method_20_code 4 = .ok (.iload_n 3, 1) := by decide +kernel
theorem d_T_placeInKind_5 : decode prog_5_method_20_code 5 = .ok (.aload_n 0, 1) := by decide +kernel
theorem d_T_placeInKind_6 : decode prog_5_method_20_code 6 = .ok (.getfield 30, 3) := by decide +kernel
theorem d_T_placeInKind_9 : decode prog_5_method_20_code 9 = .ok (.if_icmp .gt 34, 3) := by decide +kernel
theorem d_T_placeInKind_12 : decode prog_5_method_20_code 12 = .ok (.aload_n 0, 1) := by decide +kernel
theorem d_T_placeInKind_13 : decode prog_5_method_20_code 13 = .ok (.iload_n 3, 1) := by decide +kernel
theorem d_T_placeInKind_14 : decode prog_5_method_20_code 14 = .ok (.invokevirtual 50, 3) := by decide +kernel
theorem d_T_placeInKind_17 : decode prog_5_method_20_code 17 = .ok (.aload_n 0, 1) := by decide +kernel
theorem d_T_placeInKind_18 : decode prog_5_method_20_code 18 = .ok (.iload_n 1, 1) := by decide +kernel
theorem d_T_placeInKind_19 : decode prog_5_method_20_code 19 = .ok (.invokevirtual 50, 3) := by decide +kernel
theorem d_T_placeInKind_22 : decode prog_5_method_20_code 22 = .ok (.if_icmp .ne 15, 3) := by decide +kernel
theorem d_T_placeInKind_25 : decode prog_5_method_20_code 25 = .ok (.aload_n 0, 1) := by decide +kernel
theorem d_T_placeInKind_26 : decode prog_5_method_20_code 26 = .ok (.iload_n 3, 1) := by decide +kernel
theorem d_T_placeInKind_27 : decode prog_5_method_20_code 27 = .ok (.iload_n 1, 1) := by decide +kernel
theorem d_T_placeInKind_28 : decode prog_5_method_20_code 28 = .ok (.invokevirtual 54, 3) := by decide +kernel
theorem d_T_placeInKind_31 : decode prog_5_method_20_code 31 = .ok (.ifCond .eq 6, 3) := by decide +kernel
theorem d_T_placeInKind_34 : decode prog_5_method_20_code 34 = .ok (.iinc 2 1, 3) := by decide +kernel
theorem d_T_placeInKind_37 : decode prog_5_method_20_code 37 = .ok (.iinc 3 1, 3) := by decide +kernel
theorem d_T_placeInKind_40 : decode prog_5_method_20_code 40 = .ok (.goto (-36), 3) := by decide +kernel
theorem d_T_placeInKind_43 : decode prog_5_method_20_code 43 = .ok (.iload_n 2, 1) := by decide +kernel
theorem d_T_placeInKind_44 : decode prog_5_method_20_code 44 = .ok (.ireturn, 1) := by decide +kernel
abbrev y_T_comesBefore : MethodName := ⟨"FrameTables$Table", "comesBefore", "(II)Z"⟩
abbrev m_T_comesBefore : MethodName × ByteArray × Nat × Option FieldType := (y_T_comesBefore, prog_5_method_23_code, 3, some .boolean)
theorem mi_T_comesBefore : .code y_T_comesBefore prog_5_method_23_code 3 (some .boolean) ∈ wT := wT_m 266 (by decide +kernel) rfl
theorem d_T_comesBefore_0 : decode prog_5_method_23_code 0 = .ok (.aload_n 0, 1) := by decide +kernel
theorem d_T_comesBefore_1 : decode prog_5_method_23_code 1 = .ok (.getfield 18, 3) := by decide +kernel
theorem d_T_comesBefore_4 : decode prog_5_method_23_code 4 = .ok (.iload_n 1, 1) := by decide +kernel
theorem d_T_comesBefore_5 : decode prog_5_method_23_code 5 = .ok (.iaload, 1) := by decide +kernel
theorem d_T_comesBefore_6 : decode prog_5_method_23_code 6 = .ok (.aload_n 0, 1) := by decide +kernel
theorem d_T_comesBefore_7 : decode prog_5_method_23_code 7 = .ok (.getfield 18, 3) := by decide +kernel
theorem d_T_comesBefore_10 : decode prog_5_method_23_code 10 = .ok (.iload_n 2, 1) := by decide +kernel
theorem d_T_comesBefore_11 : decode prog_5_method_23_code 11 = .ok (.iaload, 1) := by decide +kernel
theorem d_T_comesBefore_12 : decode prog_5_method_23_code 12 = .ok (.if_icmp .lt 23, 3) := by decide +kernel
theorem d_T_comesBefore_15 : decode prog_5_method_23_code 15 = .ok (.aload_n 0, 1) := by decide +kernel
theorem d_T_comesBefore_16 : decode prog_5_method_23_code 16 = .ok (.getfield 18, 3) := by decide +kernel
theorem d_T_comesBefore_19 : decode prog_5_method_23_code 19 = .ok (.iload_n 1, 1) := by decide +kernel
theorem d_T_comesBefore_20 : decode prog_5_method_23_code 20 = .ok (.iaload, 1) := by decide +kernel
theorem d_T_comesBefore_21 : decode prog_5_method_23_code 21 = .ok (.aload_n 0, 1) := by decide +kernel
theorem d_T_comesBefore_22 : decode prog_5_method_23_code 22 = .ok (.getfield 18, 3) := by decide +kernel
theorem d_T_comesBefore_25 : decode prog_5_method_23_code 25 = .ok (.iload_n 2, 1) := by decide +kernel
theorem d_T_comesBefore_26 : decode prog_5_method_23_code 26 = .ok (.iaload, 1) := by decide +kernel
theorem d_T_comesBefore_27 : decode prog_5_method_23_code 27 = .ok (.if_icmp .ne 12, 3) := by decide +kernel
theorem d_T_comesBefore_30 : decode prog_5_method_23_code 30 = .ok (.iload_n 1, 1) := by decide +kernel
theorem d_T_comesBefore_31 : decode prog_5_method_23_code 31 = .ok (.iload_n 2, 1) := by decide +kernel
theorem d_T_comesBefore_32 : decode prog_5_method_23_code 32 = .ok (.if_icmp .ge 7, 3) := by decide +kernel
theorem d_T_comesBefore_35 : decode prog_5_method_23_code 35 = .ok (.iconst 1, 1) := by decide +kernel
theorem d_T_comesBefore_36 : decode prog_5_method_23_code 36 = .ok (.goto 4, 3) := by decide +kernel
theorem d_T_comesBefore_39 : decode prog_5_method_23_code 39 = .ok (.iconst 0, 1) := by decide +kernel
theorem d_T_comesBefore_40 : decode prog_5_method_23_code 40 = .ok (.ireturn, 1) := by decide +kernel
abbrev y_S_identifierAt : MethodName := ⟨"FrameTables$Spans", "identifierAt", "(II)I"⟩
abbrev m_S_identifierAt : MethodName × ByteArray × Nat × Option FieldType := (y_S_identifierAt, prog_4_method_4_code, 4, some .int)
theorem mi_S_identifierAt : .code y_S_identifierAt prog_4_method_4_code 4 (some .int) ∈ wT := wT_m 270 (by decide +kernel) rfl
theorem d_S_identifierAt_0 : decode prog_4_method_4_code 0 = .ok (.aload_n 0, 1) := by decide +kernel
theorem d_S_identifierAt_1 : decode prog_4_method_4_code 1 = .ok (.getfield 9, 3) := by decide +kernel
theorem d_S_identifierAt_4 : decode prog_4_method_4_code 4 = .ok (.iload_n 1, 1) := by decide +kernel
theorem d_S_identifierAt_5 : decode prog_4_method_4_code 5 = .ok (.iaload, 1) := by decide +kernel
theorem d_S_identifierAt_6 : decode prog_4_method_4_code 6 = .ok (.iload_n 2, 1) := by decide +kernel
theorem d_S_identifierAt_7 : decode prog_4_method_4_code 7 = .ok (.iadd, 1) := by decide +kernel
theorem d_S_identifierAt_8 : decode prog_4_method_4_code 8 = .ok (.istore_n 3, 1) := by decide +kernel
theorem d_S_identifierAt_9 : decode prog_4_method_4_code 9 = .ok (.iload_n 3, 1) := by decide +kernel
theorem d_S_identifierAt_10 : decode prog_4_method_4_code 10 = .ok (.aload_n 0, 1) := by decide +kernel
theorem d_S_identifierAt_11 : decode prog_4_method_4_code 11 = .ok (.getfield 15, 3) := by decide +kernel
theorem d_S_identifierAt_14 : decode prog_4_method_4_code 14 = .ok (.iload_n 1, 1) := by decide +kernel
theorem d_S_identifierAt_15 : decode prog_4_method_4_code 15 = .ok (.iaload, 1) := by decide +kernel
theorem d_S_identifierAt_16 : decode prog_4_method_4_code 16 = .ok (.if_icmp .gt 7, 3) := by decide +kernel
theorem d_S_identifierAt_19 : decode prog_4_method_4_code 19 = .ok (.iload_n 3, 1) := by decide +kernel
theorem d_S_identifierAt_20 : decode prog_4_method_4_code 20 = .ok (.goto 4, 3) := by decide +kernel
theorem d_S_identifierAt_23 : decode prog_4_method_4_code 23 = .ok (.iconst (-1), 1) := by decide +kernel
theorem d_S_identifierAt_24 : decode prog_4_method_4_code 24 = .ok (.ireturn, 1) := by decide +kernel
abbrev y_S_meetAnother : MethodName := ⟨"FrameTables$Spans", "meetAnother", "(III)Z"⟩
abbrev m_S_meetAnother : MethodName × ByteArray × Nat × Option FieldType := (y_S_meetAnother, prog_4_method_3_code, 5, some .boolean)
theorem mi_S_meetAnother : .code y_S_meetAnother prog_4_method_3_code 5 (some .boolean) ∈ wT := wT_m 281 (by decide +kernel) rfl
theorem d_S_meetAnother_0 : decode prog_4_method_3_code 0 = .ok (.iconst 0, 1) := by decide +kernel
theorem d_S_meetAnother_1 : decode prog_4_method_3_code 1 = .ok (.istore 4, 2) := by decide +kernel
theorem d_S_meetAnother_3 : decode prog_4_method_3_code 3 = .ok (.iload 4, 2) := by decide +kernel
theorem d_S_meetAnother_5 : decode prog_4_method_3_code 5 = .ok (.iconst 4, 1) := by decide +kernel
theorem d_S_meetAnother_6 : decode prog_4_method_3_code 6 = .ok (.if_icmp .ge 39, 3) := by decide +kernel
theorem d_S_meetAnother_9 : decode prog_4_method_3_code 9 = .ok (.iload 4, 2) := by decide +kernel
theorem d_S_meetAnother_11 : decode prog_4_method_3_code 11 = .ok (.iload_n 1, 1) := by decide +kernel
theorem d_S_meetAnother_12 : decode prog_4_method_3_code 12 = .ok (.if_icmp .eq 27, 3) := by decide +kernel
theorem d_S_meetAnother_15 : decode prog_4_method_3_code 15 = .ok (.iload_n 2, 1) := by decide +kernel
theorem d_S_meetAnother_16 : decode prog_4_method_3_code 16 = .ok (.aload_n 0, 1) := by decide +kernel
theorem d_S_meetAnother_17 : decode prog_4_method_3_code 17 = .ok (.getfield 15, 3) := by decide +kernel
theorem d_S_meetAnother_20 : decode prog_4_method_3_code 20 = .ok (.iload 4, 2) := by decide +kernel
theorem d_S_meetAnother_22 : decode prog_4_method_3_code 22 = .ok (.iaload, 1) := by decide +kernel
theorem d_S_meetAnother_23 : decode prog_4_method_3_code 23 = .ok (.if_icmp .gt 16, 3) := by decide +kernel
theorem d_S_meetAnother_26 : decode prog_4_method_3_code 26 = .ok (.iload_n 3, 1) := by decide +kernel
theorem d_S_meetAnother_27 : decode prog_4_method_3_code 27 = .ok (.aload_n 0, 1) := by decide +kernel
theorem d_S_meetAnother_28 : decode prog_4_method_3_code 28 = .ok (.getfield 9, 3) := by decide +kernel
theorem d_S_meetAnother_31 : decode prog_4_method_3_code 31 = .ok (.iload 4, 2) := by decide +kernel
theorem d_S_meetAnother_33 : decode prog_4_method_3_code 33 = .ok (.iaload, 1) := by decide +kernel
theorem d_S_meetAnother_34 : decode prog_4_method_3_code 34 = .ok (.if_icmp .lt 5, 3) := by decide +kernel
theorem d_S_meetAnother_37 : decode prog_4_method_3_code 37 = .ok (.iconst 1, 1) := by decide +kernel
theorem d_S_meetAnother_38 : decode prog_4_method_3_code 38 = .ok (.ireturn, 1) := by decide +kernel
theorem d_S_meetAnother_39 : decode prog_4_method_3_code 39 = .ok (.iinc 4 1, 3) := by decide +kernel
theorem d_S_meetAnother_42 : decode prog_4_method_3_code 42 = .ok (.goto (-39), 3) := by decide +kernel
theorem d_S_meetAnother_45 : decode prog_4_method_3_code 45 = .ok (.iconst 0, 1) := by decide +kernel
theorem d_S_meetAnother_46 : decode prog_4_method_3_code 46 = .ok (.ireturn, 1) := by decide +kernel
abbrev y_S_set : MethodName := ⟨"FrameTables$Spans", "set", "(III)V"⟩
abbrev m_S_set : MethodName × ByteArray × Nat × Option FieldType := (y_S_set, prog_4_method_2_code, 4, none)
theorem mi_S_set : .code y_S_set prog_4_method_2_code 4 none ∈ wT := wT_m 285 (by decide +kernel) rfl
theorem d_S_set_0 : decode prog_4_method_2_code 0 = .ok (.aload_n 0, 1) := by decide +kernel
theorem d_S_set_1 : decode prog_4_method_2_code 1 = .ok (.getfield 9, 3) := by decide +kernel
theorem d_S_set_4 : decode prog_4_method_2_code 4 = .ok (.iload_n 1, 1) := by decide +kernel
theorem d_S_set_5 : decode prog_4_method_2_code 5 = .ok (.iload_n 2, 1) := by decide +kernel
theorem d_S_set_6 : decode prog_4_method_2_code 6 = .ok (.iastore, 1) := by decide +kernel
theorem d_S_set_7 : decode prog_4_method_2_code 7 = .ok (.aload_n 0, 1) := by decide +kernel
theorem d_S_set_8 : decode prog_4_method_2_code 8 = .ok (.getfield 15, 3) := by decide +kernel
theorem d_S_set_11 : decode prog_4_method_2_code 11 = .ok (.iload_n 1, 1) := by decide +kernel
theorem d_S_set_12 : decode prog_4_method_2_code 12 = .ok (.iload_n 3, 1) := by decide +kernel
theorem d_S_set_13 : decode prog_4_method_2_code 13 = .ok (.iastore, 1) := by decide +kernel
theorem d_S_set_14 : decode prog_4_method_2_code 14 = .ok (.return_, 1) := by decide +kernel
abbrev y_T_size : MethodName := ⟨"FrameTables$Table", "size", "()I"⟩
abbrev m_T_size : MethodName × ByteArray × Nat × Option FieldType := (y_T_size, prog_5_method_3_code, 1, some .int)
theorem mi_T_size : .code y_T_size prog_5_method_3_code 1 (some .int) ∈ wT := wT_m 302 (by decide +kernel) rfl
theorem d_T_size_0 : decode prog_5_method_3_code 0 = .ok (.aload_n 0, 1) := by decide +kernel
theorem d_T_size_1 : decode prog_5_method_3_code 1 = .ok (.getfield 30, 3) := by decide +kernel
theorem d_T_size_4 : decode prog_5_method_3_code 4 = .ok (.ireturn, 1) := by decide +kernel
abbrev y_T_periodOf : MethodName := ⟨"FrameTables$Table", "periodOf", "(I)I"⟩
abbrev m_T_periodOf : MethodName × ByteArray × Nat × Option FieldType := (y_T_periodOf, prog_5_method_8_code, 2, some .int)
theorem mi_T_periodOf : .code y_T_periodOf prog_5_method_8_code 2 (some .int) ∈ wT := wT_m 306 (by decide +kernel) rfl
theorem d_T_periodOf_0 : decode prog_5_method_8_code 0 = .ok (.aload_n 0, 1) := by decide +kernel
theorem d_T_periodOf_1 : decode prog_5_method_8_code 1 = .ok (.getfield 15, 3) := by decide +kernel
theorem d_T_periodOf_4 : decode prog_5_method_8_code 4 = .ok (.iload_n 1, 1) := by decide +kernel
theorem d_T_periodOf_5 : decode prog_5_method_8_code 5 = .ok (.iaload, 1) := by decide +kernel
theorem d_T_periodOf_6 : decode prog_5_method_8_code 6 = .ok (.ireturn, 1) := by decide +kernel
abbrev y_T_setOffset : MethodName := ⟨"FrameTables$Table", "setOffset", "(II)V"⟩
abbrev m_T_setOffset : MethodName × ByteArray × Nat × Option FieldType := (y_T_setOffset, prog_5_method_14_code, 3, none)
theorem mi_T_setOffset : .code y_T_setOffset prog_5_method_14_code 3 none ∈ wT := wT_m 354 (by decide +kernel) rfl
theorem d_T_setOffset_0 : decode prog_5_method_14_code 0 = .ok (.aload_n 0, 1) := by decide +kernel
theorem d_T_setOffset_1 : decode prog_5_method_14_code 1 = .ok (.getfield 24, 3) := by decide +kernel
theorem d_T_setOffset_4 : decode prog_5_method_14_code 4 = .ok (.iload_n 1, 1) := by decide +kernel
theorem d_T_setOffset_5 : decode prog_5_method_14_code 5 = .ok (.iload_n 2, 1) := by decide +kernel
theorem d_T_setOffset_6 : decode prog_5_method_14_code 6 = .ok (.iastore, 1) := by decide +kernel
theorem d_T_setOffset_7 : decode prog_5_method_14_code 7 = .ok (.return_, 1) := by decide +kernel
abbrev y_T_offsetOf : MethodName := ⟨"FrameTables$Table", "offsetOf", "(I)I"⟩
abbrev m_T_offsetOf : MethodName × ByteArray × Nat × Option FieldType := (y_T_offsetOf, prog_5_method_13_code, 2, some .int)
theorem mi_T_offsetOf : .code y_T_offsetOf prog_5_method_13_code 2 (some .int) ∈ wT := wT_m 362 (by decide +kernel) rfl
theorem d_T_offsetOf_0 : decode prog_5_method_13_code 0 = .ok (.aload_n 0, 1) := by decide +kernel
theorem d_T_offsetOf_1 : decode prog_5_method_13_code 1 = .ok (.getfield 24, 3) := by decide +kernel
theorem d_T_offsetOf_4 : decode prog_5_method_13_code 4 = .ok (.iload_n 1, 1) := by decide +kernel
theorem d_T_offsetOf_5 : decode prog_5_method_13_code 5 = .ok (.iaload, 1) := by decide +kernel
theorem d_T_offsetOf_6 : decode prog_5_method_13_code 6 = .ok (.ireturn, 1) := by decide +kernel
abbrev y_T_setGap : MethodName := ⟨"FrameTables$Table", "setGap", "(II)V"⟩
abbrev m_T_setGap : MethodName × ByteArray × Nat × Option FieldType := (y_T_setGap, prog_5_method_12_code, 3, none)
theorem mi_T_setGap : .code y_T_setGap prog_5_method_12_code 3 none ∈ wT := wT_m 380 (by decide +kernel) rfl
theorem d_T_setGap_0 : decode prog_5_method_12_code 0 = .ok (.aload_n 0, 1) := by decide +kernel
theorem d_T_setGap_1 : decode prog_5_method_12_code 1 = .ok (.getfield 21, 3) := by decide +kernel
theorem d_T_setGap_4 : decode prog_5_method_12_code 4 = .ok (.iload_n 1, 1) := by decide +kernel
theorem d_T_setGap_5 : decode prog_5_method_12_code 5 = .ok (.iload_n 2, 1) := by decide +kernel
theorem d_T_setGap_6 : decode prog_5_method_12_code 6 = .ok (.iastore, 1) := by decide +kernel
theorem d_T_setGap_7 : decode prog_5_method_12_code 7 = .ok (.return_, 1) := by decide +kernel
abbrev y_T_hasShortTimeout : MethodName := ⟨"FrameTables$Table", "hasShortTimeout", "(I)Z"⟩
abbrev m_T_hasShortTimeout : MethodName × ByteArray × Nat × Option FieldType := (y_T_hasShortTimeout, prog_5_method_21_code, 3, some .boolean)
theorem mi_T_hasShortTimeout : .code y_T_hasShortTimeout prog_5_method_21_code 3 (some .boolean) ∈ wT := wT_m 393 (by decide +kernel) rfl
theorem d_T_hasShortTimeout_0 : decode prog_5_method_21_code 0 = .ok (.iconst 1, 1) := by decide +kernel
theorem d_T_hasShortTimeout_1 : decode prog_5_method_21_code 1 = .ok (.istore_n 2, 1) := by decide +kernel
theorem d_T_hasShortTimeout_2 : decode prog_5_method_21_code 2 = .ok (.iload_n 2, 1) := by decide +kernel
theorem d_T_hasShortTimeout_3 : decode prog_5_method_21_code 3 = .ok (.bipush 20, 2) := by decide +kernel
theorem d_T_hasShortTimeout_5 : decode prog_5_method_21_code 5 = .ok (.if_icmp .gt 35, 3) := by decide +kernel
theorem d_T_hasShortTimeout_8 : decode prog_5_method_21_code 8 = .ok (.aload_n 0, 1) := by decide +kernel
theorem d_T_hasShortTimeout_9 : decode prog_5_method_21_code 9 = .ok (.iload_n 1, 1) := by decide +kernel
theorem d_T_hasShortTimeout_10 : decode prog_5_method_21_code 10 = .ok (.iload_n 2, 1) := by decide +kernel
theorem d_T_hasShortTimeout_11 : decode prog_5_method_21_code 11 = .ok (.invokevirtual 46, 3) := by decide +kernel
theorem d_T_hasShortTimeout_14 : decode prog_5_method_21_code 14 = .ok (.ifCond .eq 20, 3) := by decide +kernel
theorem d_T_hasShortTimeout_17 : decode prog_5_method_21_code 17 = .ok (.aload_n 0, 1) := by decide +kernel
theorem d_T_hasShortTimeout_18 : decode prog_5_method_21_code 18 = .ok (.iload_n 1, 1) := by decide +kernel
theorem d_T_hasShortTimeout_19 : decode prog_5_method_21_code 19 = .ok (.iload_n 2, 1) := by decide +kernel
theorem d_T_hasShortTimeout_20 : decode prog_5_method_21_code 20 = .ok (.invokevirtual 42, 3) := by decide +kernel
theorem d_T_hasShortTimeout_23 : decode prog_5_method_21_code 23 = .ok (.aload_n 0, 1) := by decide +kernel
theorem d_T_hasShortTimeout_24 : decode prog_5_method_21_code 24 = .ok (.getfield 15, 3) := by decide +kernel
theorem d_T_hasShortTimeout_27 : decode prog_5_method_21_code 27 = .ok (.iload_n 1, 1) := by decide +kernel
theorem d_T_hasShortTimeout_28 : decode prog_5_method_21_code 28 = .ok (.iaload, 1) := by decide +kernel
theorem d_T_hasShortTimeout_29 : decode prog_5_method_21_code 29 = .ok (.if_icmp .ge 5, 3) := by decide +kernel
theorem d_T_hasShortTimeout_32 : decode prog_5_method_21_code 32 = .ok (.iconst 1, 1) := by decide +kernel
theorem d_T_hasShortTimeout_33 : decode prog_5_method_21_code 33 = .ok (.ireturn, 1) := by decide +kernel
theorem d_T_hasShortTimeout_34 : decode prog_5_method_21_code 34 = .ok (.iinc 2 1, 3) := by decide +kernel
theorem d_T_hasShortTimeout_37 : decode prog_5_method_21_code 37 = .ok (.goto (-35), 3) := by decide +kernel
theorem d_T_hasShortTimeout_40 : decode prog_5_method_21_code 40 = .ok (.iconst 0, 1) := by decide +kernel
theorem d_T_hasShortTimeout_41 : decode prog_5_method_21_code 41 = .ok (.ireturn, 1) := by decide +kernel
abbrev y_T_repeatsAnEarlierOne : MethodName := ⟨"FrameTables$Table", "repeatsAnEarlierOne", "(I)Z"⟩
abbrev m_T_repeatsAnEarlierOne : MethodName × ByteArray × Nat × Option FieldType := (y_T_repeatsAnEarlierOne, prog_5_method_22_code, 3, some .boolean)
theorem mi_T_repeatsAnEarlierOne : .code y_T_repeatsAnEarlierOne prog_5_method_22_code 3 (some .boolean) ∈ wT := wT_m 397 (by decide +kernel) rfl
theorem d_T_repeatsAnEarlierOne_0 : decode prog_5_method_22_code 0 = .ok (.iconst 1, 1) := by decide +kernel
theorem d_T_repeatsAnEarlierOne_1 : decode prog_5_method_22_code 1 = .ok (.istore_n 2, 1) := by decide +kernel
theorem d_T_repeatsAnEarlierOne_2 : decode prog_5_method_22_code 2 = .ok (.iload_n 2, 1) := by decide +kernel
theorem d_T_repeatsAnEarlierOne_3 : decode prog_5_method_22_code 3 = .ok (.iload_n 1, 1) := by decide +kernel
theorem d_T_repeatsAnEarlierOne_4 : decode prog_5_method_22_code 4 = .ok (.if_icmp .ge 56, 3) := by decide +kernel
theorem d_T_repeatsAnEarlierOne_7 : decode prog_5_method_22_code 7 = .ok (.aload_n 0, 1) := by decide +kernel
theorem d_T_repeatsAnEarlierOne_8 : decode prog_5_method_22_code 8 = .ok (.getfield 9, 3) := by decide +kernel
theorem d_T_repeatsAnEarlierOne_11 : decode prog_5_method_22_code 11 = .ok (.iload_n 2, 1) := by decide +kernel
theorem d_T_repeatsAnEarlierOne_12 : decode prog_5_method_22_code 12 = .ok (.iaload, 1) := by decide +kernel
theorem d_T_repeatsAnEarlierOne_13 : decode prog_5_method_22_code 13 = .ok (.aload_n 0, 1) := by decide +kernel
theorem d_T_repeatsAnEarlierOne_14 : decode prog_5_method_22_code 14 = .ok (.getfield 9, 3) := by decide +kernel
theorem d_T_repeatsAnEarlierOne_17 : decode prog_5_method_22_code 17 = .ok (.iload_n 1, 1) := by decide +kernel
theorem d_T_repeatsAnEarlierOne_18 : decode prog_5_method_22_code 18 = .ok (.iaload, 1) := by decide +kernel
theorem d_T_repeatsAnEarlierOne_19 : decode prog_5_method_22_code 19 = .ok (.if_icmp .ne 35, 3) := by decide +kernel
theorem d_T_repeatsAnEarlierOne_22 : decode prog_5_method_22_code 22 = .ok (.aload_n 0, 1) := by decide +kernel
theorem d_T_repeatsAnEarlierOne_23 : decode prog_5_method_22_code 23 = .ok (.getfield 15, 3) := by decide +kernel
theorem d_T_repeatsAnEarlierOne_26 : decode prog_5_method_22_code 26 = .ok (.iload_n 2, 1) := by decide +kernel
theorem d_T_repeatsAnEarlierOne_27 : decode prog_5_method_22_code 27 = .ok (.iaload, 1) := by decide +kernel
theorem d_T_repeatsAnEarlierOne_28 : decode prog_5_method_22_code 28 = .ok (.aload_n 0, 1) := by decide +kernel
theorem d_T_repeatsAnEarlierOne_29 : decode prog_5_method_22_code 29 = .ok (.getfield 15, 3) := by decide +kernel
theorem d_T_repeatsAnEarlierOne_32 : decode prog_5_method_22_code 32 = .ok (.iload_n 1, 1) := by decide +kernel
theorem d_T_repeatsAnEarlierOne_33 : decode prog_5_method_22_code 33 = .ok (.iaload, 1) := by decide +kernel
theorem d_T_repeatsAnEarlierOne_34 : decode prog_5_method_22_code 34 = .ok (.if_icmp .ne 20, 3) := by decide +kernel
theorem d_T_repeatsAnEarlierOne_37 : decode prog_5_method_22_code 37 = .ok (.aload_n 0, 1) := by decide +kernel
theorem d_T_repeatsAnEarlierOne_38 : decode prog_5_method_22_code 38 = .ok (.getfield 18, 3) := by decide +kernel
theorem d_T_repeatsAnEarlierOne_41 : decode prog_5_method_22_code 41 = .ok (.iload_n 2, 1) := by decide +kernel
theorem d_T_repeatsAnEarlierOne_42 : decode prog_5_method_22_code 42 = .ok (.iaload, 1) := by decide +kernel
theorem d_T_repeatsAnEarlierOne_43 : decode prog_5_method_22_code 43 = .ok (.aload_n 0, 1) := by decide +kernel
theorem d_T_repeatsAnEarlierOne_44 : decode prog_5_method_22_code 44 = .ok (.getfield 18, 3) := by decide +kernel
theorem d_T_repeatsAnEarlierOne_47 : decode prog_5_method_22_code 47 = .ok (.iload_n 1, 1) := by decide +kernel
theorem d_T_repeatsAnEarlierOne_48 : decode prog_5_method_22_code 48 = .ok (.iaload, 1) := by decide +kernel
theorem d_T_repeatsAnEarlierOne_49 : decode prog_5_method_22_code 49 = .ok (.if_icmp .ne 5, 3) := by decide +kernel
theorem d_T_repeatsAnEarlierOne_52 : decode prog_5_method_22_code 52 = .ok (.iconst 1, 1) := by decide +kernel
theorem d_T_repeatsAnEarlierOne_53 : decode prog_5_method_22_code 53 = .ok (.ireturn, 1) := by decide +kernel
theorem d_T_repeatsAnEarlierOne_54 : decode prog_5_method_22_code 54 = .ok (.iinc 2 1, 3) := by decide +kernel
theorem d_T_repeatsAnEarlierOne_57 : decode prog_5_method_22_code 57 = .ok (.goto (-55), 3) := by decide +kernel
theorem d_T_repeatsAnEarlierOne_60 : decode prog_5_method_22_code 60 = .ok (.iconst 0, 1) := by decide +kernel
theorem d_T_repeatsAnEarlierOne_61 : decode prog_5_method_22_code 61 = .ok (.ireturn, 1) := by decide +kernel
abbrev y_X_add : MethodName := ⟨"FrameTables$Text", "add", "(C)V"⟩
abbrev m_X_add : MethodName × ByteArray × Nat × Option FieldType := (y_X_add, prog_6_method_6_code, 2, none)
theorem mi_X_add : .code y_X_add prog_6_method_6_code 2 none ∈ wT := wT_m 405 (by decide +kernel) rfl
theorem d_X_add_0 : decode prog_6_method_6_code 0 = .ok (.aload_n 0, 1) := by decide +kernel
theorem d_X_add_1 : decode prog_6_method_6_code 1 = .ok (.getfield 15, 3) := by decide +kernel
theorem d_X_add_4 : decode prog_6_method_6_code 4 = .ok (.sipush 2000, 3) := by decide +kernel
theorem d_X_add_7 : decode prog_6_method_6_code 7 = .ok (.if_icmp .lt 9, 3) := by decide +kernel
theorem d_X_add_10 : decode prog_6_method_6_code 10 = .ok (.aload_n 0, 1) := by decide +kernel
theorem d_X_add_11 : decode prog_6_method_6_code 11 = .ok (.iconst 1, 1) := by decide +kernel
theorem d_X_add_12 : decode prog_6_method_6_code 12 = .ok (.putfield 19, 3) := by decide +kernel
theorem d_X_add_15 : decode prog_6_method_6_code 15 = .ok (.return_, 1) := by decide +kernel
theorem d_X_add_16 : decode prog_6_method_6_code 16 = .ok (.aload_n 0, 1) := by decide +kernel
theorem d_X_add_17 : decode prog_6_method_6_code 17 = .ok (.getfield 9, 3) := by decide +kernel
theorem d_X_add_20 : decode prog_6_method_6_code 20 = .ok (.aload_n 0, 1) := by decide +kernel
theorem d_X_add_21 : decode prog_6_method_6_code 21 = .ok (.getfield 15, 3) := by decide +kernel
theorem d_X_add_24 : decode prog_6_method_6_code 24 = .ok (.iload_n 1, 1) := by decide +kernel
theorem d_X_add_25 : decode prog_6_method_6_code 25 = .ok (.castore, 1) := by decide +kernel
theorem d_X_add_26 : decode prog_6_method_6_code 26 = .ok (.aload_n 0, 1) := by decide +kernel
theorem d_X_add_27 : decode prog_6_method_6_code 27 = .ok (.dup, 1) := by decide +kernel
theorem d_X_add_28 : decode prog_6_method_6_code 28 = .ok (.getfield 15, 3) := by decide +kernel
theorem d_X_add_31 : decode prog_6_method_6_code 31 = .ok (.iconst 1, 1) := by decide +kernel
theorem d_X_add_32 : decode prog_6_method_6_code 32 = .ok (.iadd, 1) := by decide +kernel
theorem d_X_add_33 : decode prog_6_method_6_code 33 = .ok (.putfield 15, 3) := by decide +kernel
theorem d_X_add_36 : decode prog_6_method_6_code 36 = .ok (.return_, 1) := by decide +kernel
abbrev y_T_clear : MethodName := ⟨"FrameTables$Table", "clear", "()V"⟩
abbrev m_T_clear : MethodName × ByteArray × Nat × Option FieldType := (y_T_clear, prog_5_method_2_code, 1, none)
theorem mi_T_clear : .code y_T_clear prog_5_method_2_code 1 none ∈ wT := wT_m 417 (by decide +kernel) rfl
theorem d_T_clear_0 : decode prog_5_method_2_code 0 = .ok (.aload_n 0, 1) := by decide +kernel
theorem d_T_clear_1 : decode prog_5_method_2_code 1 = .ok (.iconst 0, 1) := by decide +kernel
theorem d_T_clear_2 : decode prog_5_method_2_code 2 = .ok (.putfield 30, 3) := by decide +kernel
theorem d_T_clear_5 : decode prog_5_method_2_code 5 = .ok (.return_, 1) := by decide +kernel
abbrev y_X_length : MethodName := ⟨"FrameTables$Text", "length", "()I"⟩
abbrev m_X_length : MethodName × ByteArray × Nat × Option FieldType := (y_X_length, prog_6_method_3_code, 1, some .int)
theorem mi_X_length : .code y_X_length prog_6_method_3_code 1 (some .int) ∈ wT := wT_m 421 (by decide +kernel) rfl
theorem d_X_length_0 : decode prog_6_method_3_code 0 = .ok (.aload_n 0, 1) := by decide +kernel
theorem d_X_length_1 : decode prog_6_method_3_code 1 = .ok (.getfield 15, 3) := by decide +kernel
theorem d_X_length_4 : decode prog_6_method_3_code 4 = .ok (.ireturn, 1) := by decide +kernel
abbrev y_X_signAt : MethodName := ⟨"FrameTables$Text", "signAt", "(I)I"⟩
abbrev m_X_signAt : MethodName × ByteArray × Nat × Option FieldType := (y_X_signAt, prog_6_method_5_code, 2, some .int)
theorem mi_X_signAt : .code y_X_signAt prog_6_method_5_code 2 (some .int) ∈ wT := wT_m 425 (by decide +kernel) rfl
theorem d_X_signAt_0 : decode prog_6_method_5_code 0 = .ok (.iload_n 1, 1) := by decide +kernel
theorem d_X_signAt_1 : decode prog_6_method_5_code 1 = .ok (.ifCond .lt 20, 3) := by decide +kernel
theorem d_X_signAt_4 : decode prog_6_method_5_code 4 = .ok (.iload_n 1, 1) := by decide +kernel
theorem d_X_signAt_5 : decode prog_6_method_5_code 5 = .ok (.aload_n 0, 1) := by decide +kernel
theorem d_X_signAt_6 : decode prog_6_method_5_code 6 = .ok (.getfield 15, 3) := by decide +kernel
theorem d_X_signAt_9 : decode prog_6_method_5_code 9 = .ok (.if_icmp .ge 12, 3) := by decide +kernel
theorem d_X_signAt_12 : decode prog_6_method_5_code 12 = .ok (.aload_n 0, 1) := by decide +kernel
theorem d_X_signAt_13 : decode prog_6_method_5_code 13 = .ok (.getfield 9, 3) := by decide +kernel
theorem d_X_signAt_16 : decode prog_6_method_5_code 16 = .ok (.iload_n 1, 1) := by decide +kernel
theorem d_X_signAt_17 : decode prog_6_method_5_code 17 = .ok (.caload, 1) := by decide +kernel
theorem d_X_signAt_18 : decode prog_6_method_5_code 18 = .ok (.goto 4, 3) := by decide +kernel
theorem d_X_signAt_21 : decode prog_6_method_5_code 21 = .ok (.iconst (-1), 1) := by decide +kernel
theorem d_X_signAt_22 : decode prog_6_method_5_code 22 = .ok (.ireturn, 1) := by decide +kernel
abbrev y_K_length : MethodName := ⟨"java/lang/String", "length", "()I"⟩
abbrev m_K_length : MethodName × ByteArray × Nat × Option FieldType := (y_K_length, prog_10_method_54_code, 1, some .int)
theorem mi_K_length : .code y_K_length prog_10_method_54_code 1 (some .int) ∈ wT := wT_m 442 (by decide +kernel) rfl
theorem d_K_length_0 : decode prog_10_method_54_code 0 = .ok (.aload_n 0, 1) := by decide +kernel
theorem d_K_length_1 : decode prog_10_method_54_code 1 = .ok (.getfield 9, 3) := by decide +kernel
theorem d_K_length_4 : decode prog_10_method_54_code 4 = .ok (.arraylength, 1) := by decide +kernel
theorem d_K_length_5 : decode prog_10_method_54_code 5 = .ok (.aload_n 0, 1) := by decide +kernel
theorem d_K_length_6 : decode prog_10_method_54_code 6 = .ok (.invokevirtual 335, 3) := by decide +kernel
theorem d_K_length_9 : decode prog_10_method_54_code 9 = .ok (.ishr, 1) := by decide +kernel
theorem d_K_length_10 : decode prog_10_method_54_code 10 = .ok (.ireturn, 1) := by decide +kernel
abbrev y_K_coder : MethodName := ⟨"java/lang/String", "coder", "()B"⟩
abbrev m_K_coder : MethodName × ByteArray × Nat × Option FieldType := (y_K_coder, prog_10_method_152_code, 1, some .byte)
theorem mi_K_coder : .code y_K_coder prog_10_method_152_code 1 (some .byte) ∈ wT := wT_m 446 (by decide +kernel) rfl
theorem d_K_coder_0 : decode prog_10_method_152_code 0 = .ok (.getstatic 38, 3) := by decide +kernel
theorem d_K_coder_3 : decode prog_10_method_152_code 3 = .ok (.ifCond .eq 10, 3) := by decide +kernel
theorem d_K_coder_6 : decode prog_10_method_152_code 6 = .ok (.aload_n 0, 1) := by decide +kernel
theorem d_K_coder_7 : decode prog_10_method_152_code 7 = .ok (.getfield 15, 3) := by decide +kernel
theorem d_K_coder_10 : decode prog_10_method_152_code 10 = .ok (.goto 4, 3) := by decide +kernel
theorem d_K_coder_13 : decode prog_10_method_152_code 13 = .ok (.iconst 1, 1) := by decide +kernel
theorem d_K_coder_14 : decode prog_10_method_152_code 14 = .ok (.ireturn, 1) := by decide +kernel
abbrev y_K_charAt : MethodName := ⟨"java/lang/String", "charAt", "(I)C"⟩
abbrev m_K_charAt : MethodName × ByteArray × Nat × Option FieldType := (y_K_charAt, prog_10_method_56_code, 2, some .char)
theorem mi_K_charAt : .code y_K_charAt prog_10_method_56_code 2 (some .char) ∈ wT := wT_m 452 (by decide +kernel) rfl
theorem d_K_charAt_0 : decode prog_10_method_56_code 0 = .ok (.aload_n 0, 1) := by decide +kernel
theorem d_K_charAt_1 : decode prog_10_method_56_code 1 = .ok (.invokevirtual 492, 3) := by decide +kernel
theorem d_K_charAt_4 : decode prog_10_method_56_code 4 = .ok (.ifCond .eq 12, 3) := by decide +kernel
theorem d_K_charAt_7 : decode prog_10_method_56_code 7 = .ok (.aload_n 0, 1) := by decide +kernel
theorem d_K_charAt_8 : decode prog_10_method_56_code 8 = .ok (.getfield 9, 3) := by decide +kernel
theorem d_K_charAt_11 : decode prog_10_method_56_code 11 = .ok (.iload_n 1, 1) := by decide +kernel
theorem d_K_charAt_12 : decode prog_10_method_56_code 12 = .ok (.invokestatic 495, 3) := by decide +kernel
theorem d_K_charAt_15 : decode prog_10_method_56_code 15 = .ok (.ireturn, 1) := by decide +kernel
theorem d_K_charAt_16 : decode prog_10_method_56_code 16 = .ok (.aload_n 0, 1) := by decide +kernel
theorem d_K_charAt_17 : decode prog_10_method_56_code 17 = .ok (.getfield 9, 3) := by decide +kernel
theorem d_K_charAt_20 : decode prog_10_method_56_code 20 = .ok (.iload_n 1, 1) := by decide +kernel
theorem d_K_charAt_21 : decode prog_10_method_56_code 21 = .ok (.invokestatic 498, 3) := by decide +kernel
theorem d_K_charAt_24 : decode prog_10_method_56_code 24 = .ok (.ireturn, 1) := by decide +kernel
abbrev y_K_isLatin1 : MethodName := ⟨"java/lang/String", "isLatin1", "()Z"⟩
abbrev m_K_isLatin1 : MethodName × ByteArray × Nat × Option FieldType := (y_K_isLatin1, prog_10_method_154_code, 1, some .boolean)
theorem mi_K_isLatin1 : .code y_K_isLatin1 prog_10_method_154_code 1 (some .boolean) ∈ wT := wT_m 456 (by decide +kernel) rfl
theorem d_K_isLatin1_0 : decode prog_10_method_154_code 0 = .ok (.getstatic 38, 3) := by decide +kernel
theorem d_K_isLatin1_3 : decode prog_10_method_154_code 3 = .ok (.ifCond .eq 14, 3) := by decide +kernel
theorem d_K_isLatin1_6 : decode prog_10_method_154_code 6 = .ok (.aload_n 0, 1) := by decide +kernel
theorem d_K_isLatin1_7 : decode prog_10_method_154_code 7 = .ok (.getfield 15, 3) := by decide +kernel
theorem d_K_isLatin1_10 : decode prog_10_method_154_code 10 = .ok (.ifCond .ne 7, 3) := by decide +kernel
theorem d_K_isLatin1_13 : decode prog_10_method_154_code 13 = .ok (.iconst 1, 1) := by decide +kernel
theorem d_K_isLatin1_14 : decode prog_10_method_154_code 14 = .ok (.goto 4, 3) := by decide +kernel
theorem d_K_isLatin1_17 : decode prog_10_method_154_code 17 = .ok (.iconst 0, 1) := by decide +kernel
theorem d_K_isLatin1_18 : decode prog_10_method_154_code 18 = .ok (.ireturn, 1) := by decide +kernel
abbrev y_L_charAt : MethodName := ⟨"java/lang/StringLatin1", "charAt", "([BI)C"⟩
abbrev m_L_charAt : MethodName × ByteArray × Nat × Option FieldType := (y_L_charAt, prog_11_method_2_code, 2, some .char)
theorem mi_L_charAt : .code y_L_charAt prog_11_method_2_code 2 (some .char) ∈ wT := wT_m 459 (by decide +kernel) rfl
theorem d_L_charAt_0 : decode prog_11_method_2_code 0 = .ok (.iload_n 1, 1) := by decide +kernel
theorem d_L_charAt_1 : decode prog_11_method_2_code 1 = .ok (.aload_n 0, 1) := by decide +kernel
theorem d_L_charAt_2 : decode prog_11_method_2_code 2 = .ok (.arraylength, 1) := by decide +kernel
theorem d_L_charAt_3 : decode prog_11_method_2_code 3 = .ok (.invokestatic 9, 3) := by decide +kernel
theorem d_L_charAt_6 : decode prog_11_method_2_code 6 = .ok (.aload_n 0, 1) := by decide +kernel
theorem d_L_charAt_7 : decode prog_11_method_2_code 7 = .ok (.iload_n 1, 1) := by decide +kernel
theorem d_L_charAt_8 : decode prog_11_method_2_code 8 = .ok (.baload, 1) := by decide +kernel
theorem d_L_charAt_9 : decode prog_11_method_2_code 9 = .ok (.sipush 255, 3) := by decide +kernel
theorem d_L_charAt_12 : decode prog_11_method_2_code 12 = .ok (.iand, 1) := by decide +kernel
theorem d_L_charAt_13 : decode prog_11_method_2_code 13 = .ok (.i2c, 1) := by decide +kernel
theorem d_L_charAt_14 : decode prog_11_method_2_code 14 = .ok (.ireturn, 1) := by decide +kernel
abbrev y_K_checkIndex : MethodName := ⟨"java/lang/String", "checkIndex", "(II)V"⟩
abbrev m_K_checkIndex : MethodName × ByteArray × Nat × Option FieldType := (y_K_checkIndex, prog_10_method_155_code, 2, none)
theorem mi_K_checkIndex : .code y_K_checkIndex prog_10_method_155_code 2 none ∈ wT := wT_m 462 (by decide +kernel) rfl
theorem d_K_checkIndex_0 : decode prog_10_method_155_code 0 = .ok (.iload_n 0, 1) := by decide +kernel
theorem d_K_checkIndex_1 : decode prog_10_method_155_code 1 = .ok (.iload_n 1, 1) := by decide +kernel
theorem d_K_checkIndex_2 : decode prog_10_method_155_code 2 = .ok (.getstatic 1053, 3) := by decide +kernel
theorem d_K_checkIndex_5 : decode prog_10_method_155_code 5 = .ok (.invokestatic 1059, 3) := by decide +kernel
theorem d_K_checkIndex_8 : decode prog_10_method_155_code 8 = .ok (.pop, 1) := by decide +kernel
theorem d_K_checkIndex_9 : decode prog_10_method_155_code 9 = .ok (.return_, 1) := by decide +kernel
abbrev y_J_checkIndex : MethodName := ⟨"jdk/internal/util/Preconditions", "checkIndex", "(IILjava/util/function/BiFunction;)I"⟩
abbrev m_J_checkIndex : MethodName × ByteArray × Nat × Option FieldType := (y_J_checkIndex, prog_13_method_11_code, 3, some .int)
theorem mi_J_checkIndex : .code y_J_checkIndex prog_13_method_11_code 3 (some .int) ∈ wT := wT_m 467 (by decide +kernel) rfl
theorem d_J_checkIndex_0 : decode prog_13_method_11_code 0 = .ok (.iload_n 0, 1) := by decide +kernel
theorem d_J_checkIndex_1 : decode prog_13_method_11_code 1 = .ok (.ifCond .lt 8, 3) := by decide +kernel
theorem d_J_checkIndex_4 : decode prog_13_method_11_code 4 = .ok (.iload_n 0, 1) := by decide +kernel
theorem d_J_checkIndex_5 : decode prog_13_method_11_code 5 = .ok (.iload_n 1, 1) := by decide +kernel
theorem d_J_checkIndex_6 : decode prog_13_method_11_code 6 = .ok (.if_icmp .lt 10, 3) := by decide +kernel
theorem d_J_checkIndex_9 : decode prog_13_method_11_code 9 = .ok (.aload_n 2, 1) := by decide +kernel
theorem d_J_checkIndex_10 : decode prog_13_method_11_code 10 = .ok (.iload_n 0, 1) := by decide +kernel
theorem d_J_checkIndex_11 : decode prog_13_method_11_code 11 = .ok (.iload_n 1, 1) := by decide +kernel
theorem d_J_checkIndex_16 : decode prog_13_method_11_code 16 = .ok (.iload_n 0, 1) := by decide +kernel
theorem d_J_checkIndex_17 : decode prog_13_method_11_code 17 = .ok (.ireturn, 1) := by decide +kernel
abbrev y_X_clear : MethodName := ⟨"FrameTables$Text", "clear", "()V"⟩
abbrev m_X_clear : MethodName × ByteArray × Nat × Option FieldType := (y_X_clear, prog_6_method_2_code, 1, none)
theorem mi_X_clear : .code y_X_clear prog_6_method_2_code 1 none ∈ wT := wT_m 515 (by decide +kernel) rfl
theorem d_X_clear_0 : decode prog_6_method_2_code 0 = .ok (.aload_n 0, 1) := by decide +kernel
theorem d_X_clear_1 : decode prog_6_method_2_code 1 = .ok (.iconst 0, 1) := by decide +kernel
theorem d_X_clear_2 : decode prog_6_method_2_code 2 = .ok (.putfield 15, 3) := by decide +kernel
theorem d_X_clear_5 : decode prog_6_method_2_code 5 = .ok (.aload_n 0, 1) := by decide +kernel
theorem d_X_clear_6 : decode prog_6_method_2_code 6 = .ok (.iconst 0, 1) := by decide +kernel
theorem d_X_clear_7 : decode prog_6_method_2_code 7 = .ok (.putfield 19, 3) := by decide +kernel
theorem d_X_clear_10 : decode prog_6_method_2_code 10 = .ok (.return_, 1) := by decide +kernel
abbrev y_X_addWord : MethodName := ⟨"FrameTables$Text", "addWord", "(Ljava/lang/String;)V"⟩
abbrev m_X_addWord : MethodName × ByteArray × Nat × Option FieldType := (y_X_addWord, prog_6_method_7_code, 3, none)
theorem mi_X_addWord : .code y_X_addWord prog_6_method_7_code 3 none ∈ wT := wT_m 529 (by decide +kernel) rfl
theorem d_X_addWord_0 : decode prog_6_method_7_code 0 = .ok (.iconst 0, 1) := by decide +kernel
theorem d_X_addWord_1 : decode prog_6_method_7_code 1 = .ok (.istore_n 2, 1) := by decide +kernel
theorem d_X_addWord_2 : decode prog_6_method_7_code 2 = .ok (.iload_n 2, 1) := by decide +kernel
theorem d_X_addWord_3 : decode prog_6_method_7_code 3 = .ok (.aload_n 1, 1) := by decide +kernel
theorem d_X_addWord_4 : decode prog_6_method_7_code 4 = .ok (.invokevirtual 23, 3) := by decide +kernel
theorem d_X_addWord_7 : decode prog_6_method_7_code 7 = .ok (.if_icmp .ge 18, 3) := by decide +kernel
theorem d_X_addWord_10 : decode prog_6_method_7_code 10 = .ok (.aload_n 0, 1) := by decide +kernel
theorem d_X_addWord_11 : decode prog_6_method_7_code 11 = .ok (.aload_n 1, 1) := by decide +kernel
theorem d_X_addWord_12 : decode prog_6_method_7_code 12 = .ok (.iload_n 2, 1) := by decide +kernel
theorem d_X_addWord_13 : decode prog_6_method_7_code 13 = .ok (.invokevirtual 28, 3) := by decide +kernel
theorem d_X_addWord_16 : decode prog_6_method_7_code 16 = .ok (.invokevirtual 32, 3) := by decide +kernel
theorem d_X_addWord_19 : decode prog_6_method_7_code 19 = .ok (.iinc 2 1, 3) := by decide +kernel
theorem d_X_addWord_22 : decode prog_6_method_7_code 22 = .ok (.goto (-20), 3) := by decide +kernel
theorem d_X_addWord_25 : decode prog_6_method_7_code 25 = .ok (.return_, 1) := by decide +kernel
abbrev y_X_addNumber : MethodName := ⟨"FrameTables$Text", "addNumber", "(I)V"⟩
abbrev m_X_addNumber : MethodName × ByteArray × Nat × Option FieldType := (y_X_addNumber, prog_6_method_8_code, 4, none)
theorem mi_X_addNumber : .code y_X_addNumber prog_6_method_8_code 4 none ∈ wT := wT_m 536 (by decide +kernel) rfl
theorem d_X_addNumber_0 : decode prog_6_method_8_code 0 = .ok (.aload_n 0, 1) := by decide +kernel
theorem d_X_addNumber_1 : decode prog_6_method_8_code 1 = .ok (.bipush 32, 2) := by decide +kernel
theorem d_X_addNumber_3 : decode prog_6_method_8_code 3 = .ok (.invokevirtual 32, 3) := by decide +kernel
theorem d_X_addNumber_6 : decode prog_6_method_8_code 6 = .ok (.iconst 1, 1) := by decide +kernel
theorem d_X_addNumber_7 : decode prog_6_method_8_code 7 = .ok (.istore_n 2, 1) := by decide +kernel
theorem d_X_addNumber_8 : decode prog_6_method_8_code 8 = .ok (.iload_n 2, 1) := by decide +kernel
theorem d_X_addNumber_9 : decode prog_6_method_8_code 9 = .ok (.iload_n 1, 1) := by decide +kernel
theorem d_X_addNumber_10 : decode prog_6_method_8_code 10 = .ok (.bipush 10, 2) := by decide +kernel
theorem d_X_addNumber_12 : decode prog_6_method_8_code 12 = .ok (.idiv, 1) := by decide +kernel
theorem d_X_addNumber_13 : decode prog_6_method_8_code 13 = .ok (.if_icmp .gt 11, 3) := by decide +kernel
theorem d_X_addNumber_16 : decode prog_6_method_8_code 16 = .ok (.iload_n 2, 1) := by decide +kernel
theorem d_X_addNumber_17 : decode prog_6_method_8_code 17 = .ok (.bipush 10, 2) := by decide +kernel
theorem d_X_addNumber_19 : decode prog_6_method_8_code 19 = .ok (.imul, 1) := by decide +kernel
theorem d_X_addNumber_20 : decode prog_6_method_8_code 20 = .ok (.istore_n 2, 1) := by decide +kernel
theorem d_X_addNumber_21 : decode prog_6_method_8_code 21 = .ok (.goto (-13), 3) := by decide +kernel
theorem d_X_addNumber_24 : decode prog_6_method_8_code 24 = .ok (.iload_n 2, 1) := by decide +kernel
theorem d_X_addNumber_25 : decode prog_6_method_8_code 25 = .ok (.istore_n 3, 1) := by decide +kernel
theorem d_X_addNumber_26 : decode prog_6_method_8_code 26 = .ok (.iload_n 3, 1) := by decide +kernel
theorem d_X_addNumber_27 : decode prog_6_method_8_code 27 = .ok (.ifCond .le 25, 3) := by decide +kernel
theorem d_X_addNumber_30 : decode prog_6_method_8_code 30 = .ok (.aload_n 0, 1) := by decide +kernel
theorem d_X_addNumber_31 : decode prog_6_method_8_code 31 = .ok (.bipush 48, 2) := by decide +kernel
theorem d_X_addNumber_33 : decode prog_6_method_8_code 33 = .ok (.iload_n 1, 1) := by decide +kernel
theorem d_X_addNumber_34 : decode prog_6_method_8_code 34 = .ok (.iload_n 3, 1) := by decide +kernel
theorem d_X_addNumber_35 : decode prog_6_method_8_code 35 = .ok (.idiv, 1) := by decide +kernel
theorem d_X_addNumber_36 : decode prog_6_method_8_code 36 = .ok (.bipush 10, 2) := by decide +kernel
theorem d_X_addNumber_38 : decode prog_6_method_8_code 38 = .ok (.irem, 1) := by decide +kernel
theorem d_X_addNumber_39 : decode prog_6_method_8_code 39 = .ok (.iadd, 1) := by decide +kernel
theorem d_X_addNumber_40 : decode prog_6_method_8_code 40 = .ok (.i2c, 1) := by decide +kernel
theorem d_X_addNumber_41 : decode prog_6_method_8_code 41 = .ok (.invokevirtual 32, 3) := by decide +kernel
theorem d_X_addNumber_44 : decode prog_6_method_8_code 44 = .ok (.iload_n 3, 1) := by decide +kernel
theorem d_X_addNumber_45 : decode prog_6_method_8_code 45 = .ok (.bipush 10, 2) := by decide +kernel
theorem d_X_addNumber_47 : decode prog_6_method_8_code 47 = .ok (.idiv, 1) := by decide +kernel
theorem d_X_addNumber_48 : decode prog_6_method_8_code 48 = .ok (.istore_n 3, 1) := by decide +kernel
theorem d_X_addNumber_49 : decode prog_6_method_8_code 49 = .ok (.goto (-23), 3) := by decide +kernel
theorem d_X_addNumber_52 : decode prog_6_method_8_code 52 = .ok (.return_, 1) := by decide +kernel
abbrev y_T_rankOf : MethodName := ⟨"FrameTables$Table", "rankOf", "(I)I"⟩
abbrev m_T_rankOf : MethodName × ByteArray × Nat × Option FieldType := (y_T_rankOf, prog_5_method_9_code, 2, some .int)
theorem mi_T_rankOf : .code y_T_rankOf prog_5_method_9_code 2 (some .int) ∈ wT := wT_m 540 (by decide +kernel) rfl
theorem d_T_rankOf_0 : decode prog_5_method_9_code 0 = .ok (.aload_n 0, 1) := by decide +kernel
theorem d_T_rankOf_1 : decode prog_5_method_9_code 1 = .ok (.getfield 18, 3) := by decide +kernel
theorem d_T_rankOf_4 : decode prog_5_method_9_code 4 = .ok (.iload_n 1, 1) := by decide +kernel
theorem d_T_rankOf_5 : decode prog_5_method_9_code 5 = .ok (.iaload, 1) := by decide +kernel
theorem d_T_rankOf_6 : decode prog_5_method_9_code 6 = .ok (.ireturn, 1) := by decide +kernel
abbrev y_T_gapOf : MethodName := ⟨"FrameTables$Table", "gapOf", "(I)I"⟩
abbrev m_T_gapOf : MethodName × ByteArray × Nat × Option FieldType := (y_T_gapOf, prog_5_method_11_code, 2, some .int)
theorem mi_T_gapOf : .code y_T_gapOf prog_5_method_11_code 2 (some .int) ∈ wT := wT_m 544 (by decide +kernel) rfl
theorem d_T_gapOf_0 : decode prog_5_method_11_code 0 = .ok (.aload_n 0, 1) := by decide +kernel
theorem d_T_gapOf_1 : decode prog_5_method_11_code 1 = .ok (.getfield 21, 3) := by decide +kernel
theorem d_T_gapOf_4 : decode prog_5_method_11_code 4 = .ok (.iload_n 1, 1) := by decide +kernel
theorem d_T_gapOf_5 : decode prog_5_method_11_code 5 = .ok (.iaload, 1) := by decide +kernel
theorem d_T_gapOf_6 : decode prog_5_method_11_code 6 = .ok (.ireturn, 1) := by decide +kernel
abbrev y_X_hasLostSigns : MethodName := ⟨"FrameTables$Text", "hasLostSigns", "()Z"⟩
abbrev m_X_hasLostSigns : MethodName × ByteArray × Nat × Option FieldType := (y_X_hasLostSigns, prog_6_method_4_code, 1, some .boolean)
theorem mi_X_hasLostSigns : .code y_X_hasLostSigns prog_6_method_4_code 1 (some .boolean) ∈ wT := wT_m 551 (by decide +kernel) rfl
theorem d_X_hasLostSigns_0 : decode prog_6_method_4_code 0 = .ok (.aload_n 0, 1) := by decide +kernel
theorem d_X_hasLostSigns_1 : decode prog_6_method_4_code 1 = .ok (.getfield 19, 3) := by decide +kernel
theorem d_X_hasLostSigns_4 : decode prog_6_method_4_code 4 = .ok (.ireturn, 1) := by decide +kernel
abbrev y_T_touches : MethodName := ⟨"FrameTables$Table", "touches", "(II)Z"⟩
abbrev m_T_touches : MethodName × ByteArray × Nat × Option FieldType := (y_T_touches, prog_5_method_18_code, 3, some .boolean)
theorem mi_T_touches : .code y_T_touches prog_5_method_18_code 3 (some .boolean) ∈ wT := wT_m 565 (by decide +kernel) rfl
theorem d_T_touches_0 : decode prog_5_method_18_code 0 = .ok (.aload_n 0, 1) := by decide +kernel
theorem d_T_touches_1 : decode prog_5_method_18_code 1 = .ok (.getfield 9, 3) := by decide +kernel
theorem d_T_touches_4 : decode prog_5_method_18_code 4 = .ok (.iload_n 1, 1) := by decide +kernel
theorem d_T_touches_5 : decode prog_5_method_18_code 5 = .ok (.iaload, 1) := by decide +kernel
theorem d_T_touches_6 : decode prog_5_method_18_code 6 = .ok (.iload_n 2, 1) := by decide +kernel
theorem d_T_touches_7 : decode prog_5_method_18_code 7 = .ok (.if_icmp .eq 12, 3) := by decide +kernel
theorem d_T_touches_10 : decode prog_5_method_18_code 10 = .ok (.aload_n 0, 1) := by decide +kernel
theorem d_T_touches_11 : decode prog_5_method_18_code 11 = .ok (.iload_n 1, 1) := by decide +kernel
theorem d_T_touches_12 : decode prog_5_method_18_code 12 = .ok (.iload_n 2, 1) := by decide +kernel
theorem d_T_touches_13 : decode prog_5_method_18_code 13 = .ok (.invokevirtual 46, 3) := by decide +kernel
theorem d_T_touches_16 : decode prog_5_method_18_code 16 = .ok (.ifCond .eq 7, 3) := by decide +kernel
theorem d_T_touches_19 : decode prog_5_method_18_code 19 = .ok (.iconst 1, 1) := by decide +kernel
theorem d_T_touches_20 : decode prog_5_method_18_code 20 = .ok (.goto 4, 3) := by decide +kernel
theorem d_T_touches_23 : decode prog_5_method_18_code 23 = .ok (.iconst 0, 1) := by decide +kernel
theorem d_T_touches_24 : decode prog_5_method_18_code 24 = .ok (.ireturn, 1) := by decide +kernel
end
section
abbrev y_F_init : MethodName := ⟨"FrameTables", "<init>", "()V"⟩
abbrev m_F_init : MethodName × ByteArray × Nat × Option FieldType := (y_F_init, prog_1_method_1_code, 1, none)
theorem mi_F_init : .code y_F_init prog_1_method_1_code 1 none ∈ wT := wT_m 57 (by decide +kernel) rfl
theorem d_F_init_0 : decode prog_1_method_1_code 0 = .ok (.aload_n 0, 1) := by decide +kernel
theorem d_F_init_1 : decode prog_1_method_1_code 1 = .ok (.invokespecial 1, 3) := by decide +kernel
theorem d_F_init_4 : decode prog_1_method_1_code 4 = .ok (.aload_n 0, 1) := by decide +kernel
theorem d_F_init_5 : decode prog_1_method_1_code 5 = .ok (.new 7, 3) := by decide +kernel
theorem d_F_init_8 : decode prog_1_method_1_code 8 = .ok (.dup, 1) := by decide +kernel
theorem d_F_init_9 : decode prog_1_method_1_code 9 = .ok (.invokespecial 9, 3) := by decide +kernel
theorem d_F_init_12 : decode prog_1_method_1_code 12 = .ok (.putfield 10, 3) := by decide +kernel
theorem d_F_init_15 : decode prog_1_method_1_code 15 = .ok (.aload_n 0, 1) := by decide +kernel
theorem d_F_init_16 : decode prog_1_method_1_code 16 = .ok (.new 7, 3) := by decide +kernel
theorem d_F_init_19 : decode prog_1_method_1_code 19 = .ok (.dup, 1) := by decide +kernel
theorem d_F_init_20 : decode prog_1_method_1_code 20 = .ok (.invokespecial 9, 3) := by decide +kernel
theorem d_F_init_23 : decode prog_1_method_1_code 23 = .ok (.putfield 16, 3) := by decide +kernel
theorem d_F_init_26 : decode prog_1_method_1_code 26 = .ok (.aload_n 0, 1) := by decide +kernel
theorem d_F_init_27 : decode prog_1_method_1_code 27 = .ok (.new 19, 3) := by decide +kernel
theorem d_F_init_30 : decode prog_1_method_1_code 30 = .ok (.dup, 1) := by decide +kernel
theorem d_F_init_31 : decode prog_1_method_1_code 31 = .ok (.invokespecial 21, 3) := by decide +kernel
theorem d_F_init_34 : decode prog_1_method_1_code 34 = .ok (.putfield 22, 3) := by decide +kernel
theorem d_F_init_37 : decode prog_1_method_1_code 37 = .ok (.aload_n 0, 1) := by decide +kernel
theorem d_F_init_38 : decode prog_1_method_1_code 38 = .ok (.new 26, 3) := by decide +kernel
theorem d_F_init_41 : decode prog_1_method_1_code 41 = .ok (.dup, 1) := by decide +kernel
theorem d_F_init_42 : decode prog_1_method_1_code 42 = .ok (.invokespecial 28, 3) := by decide +kernel
theorem d_F_init_45 : decode prog_1_method_1_code 45 = .ok (.putfield 29, 3) := by decide +kernel
theorem d_F_init_48 : decode prog_1_method_1_code 48 = .ok (.aload_n 0, 1) := by decide +kernel
theorem d_F_init_49 : decode prog_1_method_1_code 49 = .ok (.new 33, 3) := by decide +kernel
theorem d_F_init_52 : decode prog_1_method_1_code 52 = .ok (.dup, 1) := by decide +kernel
theorem d_F_init_53 : decode prog_1_method_1_code 53 = .ok (.aload_n 0, 1) := by decide +kernel
theorem d_F_init_54 : decode prog_1_method_1_code 54 = .ok (.getfield 29, 3) := by decide +kernel
theorem d_F_init_57 : decode prog_1_method_1_code 57 = .ok (.invokespecial 35, 3) := by decide +kernel
theorem d_F_init_60 : decode prog_1_method_1_code 60 = .ok (.putfield 38, 3) := by decide +kernel
theorem d_F_init_63 : decode prog_1_method_1_code 63 = .ok (.aload_n 0, 1) := by decide +kernel
theorem d_F_init_64 : decode prog_1_method_1_code 64 = .ok (.new 42, 3) := by decide +kernel
theorem d_F_init_67 : decode prog_1_method_1_code 67 = .ok (.dup, 1) := by decide +kernel
theorem d_F_init_68 : decode prog_1_method_1_code 68 = .ok (.invokespecial 44, 3) := by decide +kernel
theorem d_F_init_71 : decode prog_1_method_1_code 71 = .ok (.putfield 45, 3) := by decide +kernel
theorem d_F_init_74 : decode prog_1_method_1_code 74 = .ok (.aload_n 0, 1) := by decide +kernel
theorem d_F_init_75 : decode prog_1_method_1_code 75 = .ok (.iconst 0, 1) := by decide +kernel
theorem d_F_init_76 : decode prog_1_method_1_code 76 = .ok (.putfield 49, 3) := by decide +kernel
theorem d_F_init_79 : decode prog_1_method_1_code 79 = .ok (.return_, 1) := by decide +kernel
abbrev y_P_init : MethodName := ⟨"FrameTables$Parser", "<init>", "(LFrameTables$Text;)V"⟩
abbrev m_P_init : MethodName × ByteArray × Nat × Option FieldType := (y_P_init, prog_2_method_1_code, 2, none)
theorem mi_P_init : .code y_P_init prog_2_method_1_code 2 none ∈ wT := wT_m 124 (by decide +kernel) rfl
theorem d_P_init_0 : decode prog_2_method_1_code 0 = .ok (.aload_n 0, 1) := by decide +kernel
theorem d_P_init_1 : decode prog_2_method_1_code 1 = .ok (.invokespecial 3, 3) := by decide +kernel
theorem d_P_init_4 : decode prog_2_method_1_code 4 = .ok (.aload_n 0, 1) := by decide +kernel
theorem d_P_init_5 : decode prog_2_method_1_code 5 = .ok (.iconst 0, 1) := by decide +kernel
theorem d_P_init_6 : decode prog_2_method_1_code 6 = .ok (.putfield 9, 3) := by decide +kernel
theorem d_P_init_9 : decode prog_2_method_1_code 9 = .ok (.aload_n 0, 1) := by decide +kernel
theorem d_P_init_10 : decode prog_2_method_1_code 10 = .ok (.iconst 0, 1) := by decide +kernel
theorem d_P_init_11 : decode prog_2_method_1_code 11 = .ok (.putfield 15, 3) := by decide +kernel
theorem d_P_init_14 : decode prog_2_method_1_code 14 = .ok (.aload_n 0, 1) := by decide +kernel
theorem d_P_init_15 : decode prog_2_method_1_code 15 = .ok (.iconst 0, 1) := by decide +kernel
theorem d_P_init_16 : decode prog_2_method_1_code 16 = .ok (.putfield 18, 3) := by decide +kernel
theorem d_P_init_19 : decode prog_2_method_1_code 19 = .ok (.aload_n 0, 1) := by decide +kernel
theorem d_P_init_20 : decode prog_2_method_1_code 20 = .ok (.aload_n 1, 1) := by decide +kernel
theorem d_P_init_21 : decode prog_2_method_1_code 21 = .ok (.putfield 21, 3) := by decide +kernel
theorem d_P_init_24 : decode prog_2_method_1_code 24 = .ok (.return_, 1) := by decide +kernel
abbrev y_F_frame : MethodName := ⟨"FrameTables", "frame", "(III)I"⟩
abbrev m_F_frame : MethodName × ByteArray × Nat × Option FieldType := (y_F_frame, prog_1_method_2_code, 4, some .int)
theorem mi_F_frame : .code y_F_frame prog_1_method_2_code 4 (some .int) ∈ wT := wT_m 198 (by decide +kernel) rfl
theorem d_F_frame_0 : decode prog_1_method_2_code 0 = .ok (.iload_n 1, 1) := by decide +kernel
theorem d_F_frame_1 : decode prog_1_method_2_code 1 = .ok (.invokestatic 53, 3) := by decide +kernel
theorem d_F_frame_4 : decode prog_1_method_2_code 4 = .ok (.ifCond .eq 17, 3) := by decide +kernel
theorem d_F_frame_7 : decode prog_1_method_2_code 7 = .ok (.iload_n 2, 1) := by decide +kernel
theorem d_F_frame_8 : decode prog_1_method_2_code 8 = .ok (.invokestatic 57, 3) := by decide +kernel
theorem d_F_frame_11 : decode prog_1_method_2_code 11 = .ok (.ifCond .eq 10, 3) := by decide +kernel
theorem d_F_frame_14 : decode prog_1_method_2_code 14 = .ok (.iload_n 3, 1) := by decide +kernel
theorem d_F_frame_15 : decode prog_1_method_2_code 15 = .ok (.invokestatic 60, 3) := by decide +kernel
theorem d_F_frame_18 : decode prog_1_method_2_code 18 = .ok (.ifCond .ne 6, 3) := by decide +kernel
theorem d_F_frame_21 : decode prog_1_method_2_code 21 = .ok (.bipush (-2), 2) := by decide +kernel
theorem d_F_frame_23 : decode prog_1_method_2_code 23 = .ok (.ireturn, 1) := by decide +kernel
theorem d_F_frame_24 : decode prog_1_method_2_code 24 = .ok (.aload_n 0, 1) := by decide +kernel
theorem d_F_frame_25 : decode prog_1_method_2_code 25 = .ok (.getfield 10, 3) := by decide +kernel
theorem d_F_frame_28 : decode prog_1_method_2_code 28 = .ok (.invokevirtual 63, 3) := by decide +kernel
theorem d_F_frame_31 : decode prog_1_method_2_code 31 = .ok (.ifCond .eq 6, 3) := by decide +kernel
theorem d_F_frame_34 : decode prog_1_method_2_code 34 = .ok (.bipush (-4), 2) := by decide +kernel
theorem d_F_frame_36 : decode prog_1_method_2_code 36 = .ok (.ireturn, 1) := by decide +kernel
theorem d_F_frame_37 : decode prog_1_method_2_code 37 = .ok (.aload_n 0, 1) := by decide +kernel
theorem d_F_frame_38 : decode prog_1_method_2_code 38 = .ok (.iconst 0, 1) := by decide +kernel
theorem d_F_frame_39 : decode prog_1_method_2_code 39 = .ok (.putfield 49, 3) := by decide +kernel
theorem d_F_frame_42 : decode prog_1_method_2_code 42 = .ok (.aload_n 0, 1) := by decide +kernel
theorem d_F_frame_43 : decode prog_1_method_2_code 43 = .ok (.getfield 10, 3) := by decide +kernel
theorem d_F_frame_46 : decode prog_1_method_2_code 46 = .ok (.iload_n 1, 1) := by decide +kernel
theorem d_F_frame_47 : decode prog_1_method_2_code 47 = .ok (.iload_n 2, 1) := by decide +kernel
theorem d_F_frame_48 : decode prog_1_method_2_code 48 = .ok (.iload_n 3, 1) := by decide +kernel
theorem d_F_frame_49 : decode prog_1_method_2_code 49 = .ok (.iconst 0, 1) := by decide +kernel
theorem d_F_frame_50 : decode prog_1_method_2_code 50 = .ok (.invokevirtual 67, 3) := by decide +kernel
theorem d_F_frame_53 : decode prog_1_method_2_code 53 = .ok (.ireturn, 1) := by decide +kernel
abbrev y_F_isNode : MethodName := ⟨"FrameTables", "isNode", "(I)Z"⟩
abbrev m_F_isNode : MethodName × ByteArray × Nat × Option FieldType := (y_F_isNode, prog_1_method_16_code, 1, some .boolean)
theorem mi_F_isNode : .code y_F_isNode prog_1_method_16_code 1 (some .boolean) ∈ wT := wT_m 201 (by decide +kernel) rfl
theorem d_F_isNode_0 : decode prog_1_method_16_code 0 = .ok (.iload_n 0, 1) := by decide +kernel
theorem d_F_isNode_1 : decode prog_1_method_16_code 1 = .ok (.iconst 1, 1) := by decide +kernel
theorem d_F_isNode_2 : decode prog_1_method_16_code 2 = .ok (.if_icmp .lt 13, 3) := by decide +kernel
theorem d_F_isNode_5 : decode prog_1_method_16_code 5 = .ok (.iload_n 0, 1) := by decide +kernel
theorem d_F_isNode_6 : decode prog_1_method_16_code 6 = .ok (.bipush 20, 2) := by decide +kernel
theorem d_F_isNode_8 : decode prog_1_method_16_code 8 = .ok (.if_icmp .gt 7, 3) := by decide +kernel
theorem d_F_isNode_11 : decode prog_1_method_16_code 11 = .ok (.iconst 1, 1) := by decide +kernel
theorem d_F_isNode_12 : decode prog_1_method_16_code 12 = .ok (.goto 4, 3) := by decide +kernel
theorem d_F_isNode_15 : decode prog_1_method_16_code 15 = .ok (.iconst 0, 1) := by decide +kernel
theorem d_F_isNode_16 : decode prog_1_method_16_code 16 = .ok (.ireturn, 1) := by decide +kernel
abbrev y_F_isPeriod : MethodName := ⟨"FrameTables", "isPeriod", "(I)Z"⟩
abbrev m_F_isPeriod : MethodName × ByteArray × Nat × Option FieldType := (y_F_isPeriod, prog_1_method_17_code, 1, some .boolean)
theorem mi_F_isPeriod : .code y_F_isPeriod prog_1_method_17_code 1 (some .boolean) ∈ wT := wT_m 204 (by decide +kernel) rfl
theorem d_F_isPeriod_0 : decode prog_1_method_17_code 0 = .ok (.iload_n 0, 1) := by decide +kernel
theorem d_F_isPeriod_1 : decode prog_1_method_17_code 1 = .ok (.iconst 1, 1) := by decide +kernel
theorem d_F_isPeriod_2 : decode prog_1_method_17_code 2 = .ok (.if_icmp .lt 13, 3) := by decide +kernel
theorem d_F_isPeriod_5 : decode prog_1_method_17_code 5 = .ok (.iload_n 0, 1) := by decide +kernel
theorem d_F_isPeriod_6 : decode prog_1_method_17_code 6 = .ok (.bipush 60, 2) := by decide +kernel
theorem d_F_isPeriod_8 : decode prog_1_method_17_code 8 = .ok (.if_icmp .gt 7, 3) := by decide +kernel
theorem d_F_isPeriod_11 : decode prog_1_method_17_code 11 = .ok (.iconst 1, 1) := by decide +kernel
theorem d_F_isPeriod_12 : decode prog_1_method_17_code 12 = .ok (.goto 4, 3) := by decide +kernel
theorem d_F_isPeriod_15 : decode prog_1_method_17_code 15 = .ok (.iconst 0, 1) := by decide +kernel
theorem d_F_isPeriod_16 : decode prog_1_method_17_code 16 = .ok (.ireturn, 1) := by decide +kernel
abbrev y_F_isRank : MethodName := ⟨"FrameTables", "isRank", "(I)Z"⟩
abbrev m_F_isRank : MethodName × ByteArray × Nat × Option FieldType := (y_F_isRank, prog_1_method_18_code, 1, some .boolean)
theorem mi_F_isRank : .code y_F_isRank prog_1_method_18_code 1 (some .boolean) ∈ wT := wT_m 207 (by decide +kernel) rfl
theorem d_F_isRank_0 : decode prog_1_method_18_code 0 = .ok (.iload_n 0, 1) := by decide +kernel
theorem d_F_isRank_1 : decode prog_1_method_18_code 1 = .ok (.ifCond .lt 13, 3) := by decide +kernel
theorem d_F_isRank_4 : decode prog_1_method_18_code 4 = .ok (.iload_n 0, 1) := by decide +kernel
theorem d_F_isRank_5 : decode prog_1_method_18_code 5 = .ok (.bipush 99, 2) := by decide +kernel
theorem d_F_isRank_7 : decode prog_1_method_18_code 7 = .ok (.if_icmp .gt 7, 3) := by decide +kernel
theorem d_F_isRank_10 : decode prog_1_method_18_code 10 = .ok (.iconst 1, 1) := by decide +kernel
theorem d_F_isRank_11 : decode prog_1_method_18_code 11 = .ok (.goto 4, 3) := by decide +kernel
theorem d_F_isRank_14 : decode prog_1_method_18_code 14 = .ok (.iconst 0, 1) := by decide +kernel
theorem d_F_isRank_15 : decode prog_1_method_18_code 15 = .ok (.ireturn, 1) := by decide +kernel
abbrev y_F_reader : MethodName := ⟨"FrameTables", "reader", "(III)I"⟩
abbrev m_F_reader : MethodName × ByteArray × Nat × Option FieldType := (y_F_reader, prog_1_method_3_code, 4, some .int)
theorem mi_F_reader : .code y_F_reader prog_1_method_3_code 4 (some .int) ∈ wT := wT_m 224 (by decide +kernel) rfl
theorem d_F_reader_0 : decode prog_1_method_3_code 0 = .ok (.aload_n 0, 1) := by decide +kernel
theorem d_F_reader_1 : decode prog_1_method_3_code 1 = .ok (.getfield 10, 3) := by decide +kernel
theorem d_F_reader_4 : decode prog_1_method_3_code 4 = .ok (.iload_n 1, 1) := by decide +kernel
theorem d_F_reader_5 : decode prog_1_method_3_code 5 = .ok (.invokevirtual 71, 3) := by decide +kernel
theorem d_F_reader_8 : decode prog_1_method_3_code 8 = .ok (.ifCond .eq 10, 3) := by decide +kernel
theorem d_F_reader_11 : decode prog_1_method_3_code 11 = .ok (.iload_n 2, 1) := by decide +kernel
theorem d_F_reader_12 : decode prog_1_method_3_code 12 = .ok (.invokestatic 53, 3) := by decide +kernel
theorem d_F_reader_15 : decode prog_1_method_3_code 15 = .ok (.ifCond .ne 5, 3) := by decide +kernel
theorem d_F_reader_18 : decode prog_1_method_3_code 18 = .ok (.iconst (-1), 1) := by decide +kernel
theorem d_F_reader_19 : decode prog_1_method_3_code 19 = .ok (.ireturn, 1) := by decide +kernel
theorem d_F_reader_20 : decode prog_1_method_3_code 20 = .ok (.iload_n 3, 1) := by decide +kernel
theorem d_F_reader_21 : decode prog_1_method_3_code 21 = .ok (.ifCond .lt 10, 3) := by decide +kernel
theorem d_F_reader_24 : decode prog_1_method_3_code 24 = .ok (.iload_n 3, 1) := by decide +kernel
theorem d_F_reader_25 : decode prog_1_method_3_code 25 = .ok (.sipush 10000, 3) := by decide +kernel
theorem d_F_reader_28 : decode prog_1_method_3_code 28 = .ok (.if_icmp .le 6, 3) := by decide +kernel
theorem d_F_reader_31 : decode prog_1_method_3_code 31 = .ok (.bipush (-2), 2) := by decide +kernel
theorem d_F_reader_33 : decode prog_1_method_3_code 33 = .ok (.ireturn, 1) := by decide +kernel
theorem d_F_reader_34 : decode prog_1_method_3_code 34 = .ok (.aload_n 0, 1) := by decide +kernel
theorem d_F_reader_35 : decode prog_1_method_3_code 35 = .ok (.getfield 10, 3) := by decide +kernel
theorem d_F_reader_38 : decode prog_1_method_3_code 38 = .ok (.iload_n 1, 1) := by decide +kernel
theorem d_F_reader_39 : decode prog_1_method_3_code 39 = .ok (.invokevirtual 74, 3) := by decide +kernel
theorem d_F_reader_42 : decode prog_1_method_3_code 42 = .ok (.iload_n 2, 1) := by decide +kernel
theorem d_F_reader_43 : decode prog_1_method_3_code 43 = .ok (.if_icmp .ne 6, 3) := by decide +kernel
theorem d_F_reader_46 : decode prog_1_method_3_code 46 = .ok (.bipush (-3), 2) := by decide +kernel
theorem d_F_reader_48 : decode prog_1_method_3_code 48 = .ok (.ireturn, 1) := by decide +kernel
theorem d_F_reader_49 : decode prog_1_method_3_code 49 = .ok (.aload_n 0, 1) := by decide +kernel
theorem d_F_reader_50 : decode prog_1_method_3_code 50 = .ok (.getfield 10, 3) := by decide +kernel
theorem d_F_reader_53 : decode prog_1_method_3_code 53 = .ok (.iload_n 1, 1) := by decide +kernel
theorem d_F_reader_54 : decode prog_1_method_3_code 54 = .ok (.iload_n 2, 1) := by decide +kernel
theorem d_F_reader_55 : decode prog_1_method_3_code 55 = .ok (.iload_n 3, 1) := by decide +kernel
theorem d_F_reader_56 : decode prog_1_method_3_code 56 = .ok (.invokevirtual 78, 3) := by decide +kernel
theorem d_F_reader_59 : decode prog_1_method_3_code 59 = .ok (.aload_n 0, 1) := by decide +kernel
theorem d_F_reader_60 : decode prog_1_method_3_code 60 = .ok (.getfield 10, 3) := by decide +kernel
theorem d_F_reader_63 : decode prog_1_method_3_code 63 = .ok (.iload_n 1, 1) := by decide +kernel
theorem d_F_reader_64 : decode prog_1_method_3_code 64 = .ok (.invokevirtual 82, 3) := by decide +kernel
theorem d_F_reader_67 : decode prog_1_method_3_code 67 = .ok (.ireturn, 1) := by decide +kernel
abbrev y_F_identifier : MethodName := ⟨"FrameTables", "identifier", "(I)I"⟩
abbrev m_F_identifier : MethodName × ByteArray × Nat × Option FieldType := (y_F_identifier, prog_1_method_4_code, 3, some .int)
theorem mi_F_identifier : .code y_F_identifier prog_1_method_4_code 3 (some .int) ∈ wT := wT_m 249 (by decide +kernel) rfl
theorem d_F_identifier_0 : decode prog_1_method_4_code 0 = .ok (.aload_n 0, 1) := by decide +kernel
theorem d_F_identifier_1 : decode prog_1_method_4_code 1 = .ok (.getfield 10, 3) := by decide +kernel
theorem d_F_identifier_4 : decode prog_1_method_4_code 4 = .ok (.iload_n 1, 1) := by decide +kernel
theorem d_F_identifier_5 : decode prog_1_method_4_code 5 = .ok (.invokevirtual 71, 3) := by decide +kernel
theorem d_F_identifier_8 : decode prog_1_method_4_code 8 = .ok (.ifCond .ne 5, 3) := by decide +kernel
theorem d_F_identifier_11 : decode prog_1_method_4_code 11 = .ok (.iconst (-1), 1) := by decide +kernel
theorem d_F_identifier_12 : decode prog_1_method_4_code 12 = .ok (.ireturn, 1) := by decide +kernel
theorem d_F_identifier_13 : decode prog_1_method_4_code 13 = .ok (.aload_n 0, 1) := by decide +kernel
theorem d_F_identifier_14 : decode prog_1_method_4_code 14 = .ok (.iload_n 1, 1) := by decide +kernel
theorem d_F_identifier_15 : decode prog_1_method_4_code 15 = .ok (.invokevirtual 85, 3) := by decide +kernel
theorem d_F_identifier_18 : decode prog_1_method_4_code 18 = .ok (.istore_n 2, 1) := by decide +kernel
theorem d_F_identifier_19 : decode prog_1_method_4_code 19 = .ok (.iload_n 2, 1) := by decide +kernel
theorem d_F_identifier_20 : decode prog_1_method_4_code 20 = .ok (.iconst (-1), 1) := by decide +kernel
theorem d_F_identifier_21 : decode prog_1_method_4_code 21 = .ok (.if_icmp .ne 8, 3) := by decide +kernel
theorem d_F_identifier_24 : decode prog_1_method_4_code 24 = .ok (.bipush (-4), 2) := by decide +kernel
theorem d_F_identifier_26 : decode prog_1_method_4_code 26 = .ok (.goto 4, 3) := by decide +kernel
theorem d_F_identifier_29 : decode prog_1_method_4_code 29 = .ok (.iload_n 2, 1) := by decide +kernel
theorem d_F_identifier_30 : decode prog_1_method_4_code 30 = .ok (.ireturn, 1) := by decide +kernel
abbrev y_F_identifierOf : MethodName := ⟨"FrameTables", "identifierOf", "(I)I"⟩
abbrev m_F_identifierOf : MethodName × ByteArray × Nat × Option FieldType := (y_F_identifierOf, prog_1_method_20_code, 2, some .int)
theorem mi_F_identifierOf : .code y_F_identifierOf prog_1_method_20_code 2 (some .int) ∈ wT := wT_m 253 (by decide +kernel) rfl
theorem d_F_identifierOf_0 : decode prog_1_method_20_code 0 = .ok (.aload_n 0, 1) := by decide +kernel
theorem d_F_identifierOf_1 : decode prog_1_method_20_code 1 = .ok (.getfield 22, 3) := by decide +kernel
theorem d_F_identifierOf_4 : decode prog_1_method_20_code 4 = .ok (.aload_n 0, 1) := by decide +kernel
theorem d_F_identifierOf_5 : decode prog_1_method_20_code 5 = .ok (.getfield 10, 3) := by decide +kernel
theorem d_F_identifierOf_8 : decode prog_1_method_20_code 8 = .ok (.iload_n 1, 1) := by decide +kernel
theorem d_F_identifierOf_9 : decode prog_1_method_20_code 9 = .ok (.invokevirtual 161, 3) := by decide +kernel
theorem d_F_identifierOf_12 : decode prog_1_method_20_code 12 = .ok (.aload_n 0, 1) := by decide +kernel
theorem d_F_identifierOf_13 : decode prog_1_method_20_code 13 = .ok (.getfield 10, 3) := by decide +kernel
theorem d_F_identifierOf_16 : decode prog_1_method_20_code 16 = .ok (.iload_n 1, 1) := by decide +kernel
theorem d_F_identifierOf_17 : decode prog_1_method_20_code 17 = .ok (.invokevirtual 164, 3) := by decide +kernel
theorem d_F_identifierOf_20 : decode prog_1_method_20_code 20 = .ok (.invokevirtual 167, 3) := by decide +kernel
theorem d_F_identifierOf_23 : decode prog_1_method_20_code 23 = .ok (.ireturn, 1) := by decide +kernel
abbrev y_F_span : MethodName := ⟨"FrameTables", "span", "(III)I"⟩
abbrev m_F_span : MethodName × ByteArray × Nat × Option FieldType := (y_F_span, prog_1_method_5_code, 4, some .int)
theorem mi_F_span : .code y_F_span prog_1_method_5_code 4 (some .int) ∈ wT := wT_m 274 (by decide +kernel) rfl
theorem d_F_span_0 : decode prog_1_method_5_code 0 = .ok (.iload_n 1, 1) := by decide +kernel
theorem d_F_span_1 : decode prog_1_method_5_code 1 = .ok (.ifCond .lt 8, 3) := by decide +kernel
theorem d_F_span_4 : decode prog_1_method_5_code 4 = .ok (.iload_n 1, 1) := by decide +kernel
theorem d_F_span_5 : decode prog_1_method_5_code 5 = .ok (.iconst 4, 1) := by decide +kernel
theorem d_F_span_6 : decode prog_1_method_5_code 6 = .ok (.if_icmp .lt 5, 3) := by decide +kernel
theorem d_F_span_9 : decode prog_1_method_5_code 9 = .ok (.iconst (-1), 1) := by decide +kernel
theorem d_F_span_10 : decode prog_1_method_5_code 10 = .ok (.ireturn, 1) := by decide +kernel
theorem d_F_span_11 : decode prog_1_method_5_code 11 = .ok (.iload_n 2, 1) := by decide +kernel
theorem d_F_span_12 : decode prog_1_method_5_code 12 = .ok (.invokestatic 88, 3) := by decide +kernel
theorem d_F_span_15 : decode prog_1_method_5_code 15 = .ok (.ifCond .eq 15, 3) := by decide +kernel
theorem d_F_span_18 : decode prog_1_method_5_code 18 = .ok (.iload_n 3, 1) := by decide +kernel
theorem d_F_span_19 : decode prog_1_method_5_code 19 = .ok (.invokestatic 88, 3) := by decide +kernel
theorem d_F_span_22 : decode prog_1_method_5_code 22 = .ok (.ifCond .eq 8, 3) := by decide +kernel
theorem d_F_span_25 : decode prog_1_method_5_code 25 = .ok (.iload_n 3, 1) := by decide +kernel
theorem d_F_span_26 : decode prog_1_method_5_code 26 = .ok (.iload_n 2, 1) := by decide +kernel
theorem d_F_span_27 : decode prog_1_method_5_code 27 = .ok (.if_icmp .ge 6, 3) := by decide +kernel
theorem d_F_span_30 : decode prog_1_method_5_code 30 = .ok (.bipush (-2), 2) := by decide +kernel
theorem d_F_span_32 : decode prog_1_method_5_code 32 = .ok (.ireturn, 1) := by decide +kernel
theorem d_F_span_33 : decode prog_1_method_5_code 33 = .ok (.aload_n 0, 1) := by decide +kernel
theorem d_F_span_34 : decode prog_1_method_5_code 34 = .ok (.getfield 22, 3) := by decide +kernel
theorem d_F_span_37 : decode prog_1_method_5_code 37 = .ok (.iload_n 1, 1) := by decide +kernel
theorem d_F_span_38 : decode prog_1_method_5_code 38 = .ok (.iload_n 2, 1) := by decide +kernel
theorem d_F_span_39 : decode prog_1_method_5_code 39 = .ok (.iload_n 3, 1) := by decide +kernel
theorem d_F_span_40 : decode prog_1_method_5_code 40 = .ok (.invokevirtual 91, 3) := by decide +kernel
theorem d_F_span_43 : decode prog_1_method_5_code 43 = .ok (.ifCond .eq 6, 3) := by decide +kernel
theorem d_F_span_46 : decode prog_1_method_5_code 46 = .ok (.bipush (-3), 2) := by decide +kernel
theorem d_F_span_48 : decode prog_1_method_5_code 48 = .ok (.ireturn, 1) := by decide +kernel
theorem d_F_span_49 : decode prog_1_method_5_code 49 = .ok (.aload_n 0, 1) := by decide +kernel
theorem d_F_span_50 : decode prog_1_method_5_code 50 = .ok (.getfield 22, 3) := by decide +kernel
theorem d_F_span_53 : decode prog_1_method_5_code 53 = .ok (.iload_n 1, 1) := by decide +kernel
theorem d_F_span_54 : decode prog_1_method_5_code 54 = .ok (.iload_n 2, 1) := by decide +kernel
theorem d_F_span_55 : decode prog_1_method_5_code 55 = .ok (.iload_n 3, 1) := by decide +kernel
theorem d_F_span_56 : decode prog_1_method_5_code 56 = .ok (.invokevirtual 95, 3) := by decide +kernel
theorem d_F_span_59 : decode prog_1_method_5_code 59 = .ok (.iload_n 3, 1) := by decide +kernel
theorem d_F_span_60 : decode prog_1_method_5_code 60 = .ok (.iload_n 2, 1) := by decide +kernel
theorem d_F_span_61 : decode prog_1_method_5_code 61 = .ok (.isub, 1) := by decide +kernel
theorem d_F_span_62 : decode prog_1_method_5_code 62 = .ok (.iconst 1, 1) := by decide +kernel
theorem d_F_span_63 : decode prog_1_method_5_code 63 = .ok (.iadd, 1) := by decide +kernel
theorem d_F_span_64 : decode prog_1_method_5_code 64 = .ok (.ireturn, 1) := by decide +kernel
abbrev y_F_isIdentifier : MethodName := ⟨"FrameTables", "isIdentifier", "(I)Z"⟩
abbrev m_F_isIdentifier : MethodName × ByteArray × Nat × Option FieldType := (y_F_isIdentifier, prog_1_method_19_code, 1, some .boolean)
theorem mi_F_isIdentifier : .code y_F_isIdentifier prog_1_method_19_code 1 (some .boolean) ∈ wT := wT_m 277 (by decide +kernel) rfl
theorem d_F_isIdentifier_0 : decode prog_1_method_19_code 0 = .ok (.iload_n 0, 1) := by decide +kernel
theorem d_F_isIdentifier_1 : decode prog_1_method_19_code 1 = .ok (.ifCond .lt 14, 3) := by decide +kernel
theorem d_F_isIdentifier_4 : decode prog_1_method_19_code 4 = .ok (.iload_n 0, 1) := by decide +kernel
theorem d_F_isIdentifier_5 : decode prog_1_method_19_code 5 = .ok (.sipush 2048, 3) := by decide +kernel
theorem d_F_isIdentifier_8 : decode prog_1_method_19_code 8 = .ok (.if_icmp .ge 7, 3) := by decide +kernel
theorem d_F_isIdentifier_11 : decode prog_1_method_19_code 11 = .ok (.iconst 1, 1) := by decide +kernel
theorem d_F_isIdentifier_12 : decode prog_1_method_19_code 12 = .ok (.goto 4, 3) := by decide +kernel
theorem d_F_isIdentifier_15 : decode prog_1_method_19_code 15 = .ok (.iconst 0, 1) := by decide +kernel
theorem d_F_isIdentifier_16 : decode prog_1_method_19_code 16 = .ok (.ireturn, 1) := by decide +kernel
abbrev y_F_offset : MethodName := ⟨"FrameTables", "offset", "(J)I"⟩
abbrev m_F_offset : MethodName × ByteArray × Nat × Option FieldType := (y_F_offset, prog_1_method_6_code, 5, some .int)
theorem mi_F_offset : .code y_F_offset prog_1_method_6_code 5 (some .int) ∈ wT := wT_m 289 (by decide +kernel) rfl
theorem d_F_offset_0 : decode prog_1_method_6_code 0 = .ok (.lload_n 1, 1) := by decide +kernel
theorem d_F_offset_1 : decode prog_1_method_6_code 1 = .ok (.lconst 0, 1) := by decide +kernel
theorem d_F_offset_2 : decode prog_1_method_6_code 2 = .ok (.lcmp, 1) := by decide +kernel
theorem d_F_offset_3 : decode prog_1_method_6_code 3 = .ok (.ifCond .lt 11, 3) := by decide +kernel
theorem d_F_offset_6 : decode prog_1_method_6_code 6 = .ok (.lload_n 1, 1) := by decide +kernel
theorem d_F_offset_7 : decode prog_1_method_6_code 7 = .ok (.ldc2_w 98, 3) := by decide +kernel
theorem d_F_offset_10 : decode prog_1_method_6_code 10 = .ok (.lcmp, 1) := by decide +kernel
theorem d_F_offset_11 : decode prog_1_method_6_code 11 = .ok (.ifCond .le 6, 3) := by decide +kernel
theorem d_F_offset_14 : decode prog_1_method_6_code 14 = .ok (.bipush (-2), 2) := by decide +kernel
theorem d_F_offset_16 : decode prog_1_method_6_code 16 = .ok (.ireturn, 1) := by decide +kernel
theorem d_F_offset_17 : decode prog_1_method_6_code 17 = .ok (.aload_n 0, 1) := by decide +kernel
theorem d_F_offset_18 : decode prog_1_method_6_code 18 = .ok (.getfield 45, 3) := by decide +kernel
theorem d_F_offset_21 : decode prog_1_method_6_code 21 = .ok (.aload_n 0, 1) := by decide +kernel
theorem d_F_offset_22 : decode prog_1_method_6_code 22 = .ok (.getfield 10, 3) := by decide +kernel
theorem d_F_offset_25 : decode prog_1_method_6_code 25 = .ok (.invokevirtual 100, 3) := by decide +kernel
theorem d_F_offset_28 : decode prog_1_method_6_code 28 = .ok (.lconst 0, 1) := by decide +kernel
theorem d_F_offset_29 : decode prog_1_method_6_code 29 = .ok (.lstore_n 3, 1) := by decide +kernel
theorem d_F_offset_30 : decode prog_1_method_6_code 30 = .ok (.lload_n 3, 1) := by decide +kernel
theorem d_F_offset_31 : decode prog_1_method_6_code 31 = .ok (.lload_n 1, 1) := by decide +kernel
theorem d_F_offset_32 : decode prog_1_method_6_code 32 = .ok (.lcmp, 1) := by decide +kernel
theorem d_F_offset_33 : decode prog_1_method_6_code 33 = .ok (.ifCond .ge 27, 3) := by decide +kernel
theorem d_F_offset_36 : decode prog_1_method_6_code 36 = .ok (.aload_n 0, 1) := by decide +kernel
theorem d_F_offset_37 : decode prog_1_method_6_code 37 = .ok (.getfield 45, 3) := by decide +kernel
theorem d_F_offset_40 : decode prog_1_method_6_code 40 = .ok (.invokevirtual 104, 3) := by decide +kernel
theorem d_F_offset_43 : decode prog_1_method_6_code 43 = .ok (.ifCond .ne 17, 3) := by decide +kernel
theorem d_F_offset_46 : decode prog_1_method_6_code 46 = .ok (.aload_n 0, 1) := by decide +kernel
theorem d_F_offset_47 : decode prog_1_method_6_code 47 = .ok (.getfield 45, 3) := by decide +kernel
theorem d_F_offset_50 : decode prog_1_method_6_code 50 = .ok (.invokevirtual 107, 3) := by decide +kernel
theorem d_F_offset_53 : decode prog_1_method_6_code 53 = .ok (.lload_n 3, 1) := by decide +kernel
theorem d_F_offset_54 : decode prog_1_method_6_code 54 = .ok (.lconst 1, 1) := by decide +kernel
theorem d_F_offset_55 : decode prog_1_method_6_code 55 = .ok (.ladd, 1) := by decide +kernel
theorem d_F_offset_56 : decode prog_1_method_6_code 56 = .ok (.lstore_n 3, 1) := by decide +kernel
theorem d_F_offset_57 : decode prog_1_method_6_code 57 = .ok (.goto (-27), 3) := by decide +kernel
theorem d_F_offset_60 : decode prog_1_method_6_code 60 = .ok (.aload_n 0, 1) := by decide +kernel
theorem d_F_offset_61 : decode prog_1_method_6_code 61 = .ok (.getfield 45, 3) := by decide +kernel
theorem d_F_offset_64 : decode prog_1_method_6_code 64 = .ok (.aload_n 0, 1) := by decide +kernel
theorem d_F_offset_65 : decode prog_1_method_6_code 65 = .ok (.getfield 10, 3) := by decide +kernel
theorem d_F_offset_68 : decode prog_1_method_6_code 68 = .ok (.invokevirtual 110, 3) := by decide +kernel
theorem d_F_offset_71 : decode prog_1_method_6_code 71 = .ok (.aload_n 0, 1) := by decide +kernel
theorem d_F_offset_72 : decode prog_1_method_6_code 72 = .ok (.aload_n 0, 1) := by decide +kernel
theorem d_F_offset_73 : decode prog_1_method_6_code 73 = .ok (.getfield 45, 3) := by decide +kernel
theorem d_F_offset_76 : decode prog_1_method_6_code 76 = .ok (.invokevirtual 104, 3) := by decide +kernel
theorem d_F_offset_79 : decode prog_1_method_6_code 79 = .ok (.putfield 49, 3) := by decide +kernel
theorem d_F_offset_82 : decode prog_1_method_6_code 82 = .ok (.aload_n 0, 1) := by decide +kernel
theorem d_F_offset_83 : decode prog_1_method_6_code 83 = .ok (.getfield 45, 3) := by decide +kernel
theorem d_F_offset_86 : decode prog_1_method_6_code 86 = .ok (.aload_n 0, 1) := by decide +kernel
theorem d_F_offset_87 : decode prog_1_method_6_code 87 = .ok (.getfield 10, 3) := by decide +kernel
theorem d_F_offset_90 : decode prog_1_method_6_code 90 = .ok (.invokevirtual 113, 3) := by decide +kernel
theorem d_F_offset_93 : decode prog_1_method_6_code 93 = .ok (.ireturn, 1) := by decide +kernel
abbrev y_F_at : MethodName := ⟨"FrameTables", "at", "(I)I"⟩
abbrev m_F_at : MethodName × ByteArray × Nat × Option FieldType := (y_F_at, prog_1_method_7_code, 2, some .int)
theorem mi_F_at : .code y_F_at prog_1_method_7_code 2 (some .int) ∈ wT := wT_m 366 (by decide +kernel) rfl
theorem d_F_at_0 : decode prog_1_method_7_code 0 = .ok (.aload_n 0, 1) := by decide +kernel
theorem d_F_at_1 : decode prog_1_method_7_code 1 = .ok (.getfield 10, 3) := by decide +kernel
theorem d_F_at_4 : decode prog_1_method_7_code 4 = .ok (.iload_n 1, 1) := by decide +kernel
theorem d_F_at_5 : decode prog_1_method_7_code 5 = .ok (.invokevirtual 71, 3) := by decide +kernel
theorem d_F_at_8 : decode prog_1_method_7_code 8 = .ok (.ifCond .eq 14, 3) := by decide +kernel
theorem d_F_at_11 : decode prog_1_method_7_code 11 = .ok (.aload_n 0, 1) := by decide +kernel
theorem d_F_at_12 : decode prog_1_method_7_code 12 = .ok (.getfield 10, 3) := by decide +kernel
theorem d_F_at_15 : decode prog_1_method_7_code 15 = .ok (.iload_n 1, 1) := by decide +kernel
theorem d_F_at_16 : decode prog_1_method_7_code 16 = .ok (.invokevirtual 117, 3) := by decide +kernel
theorem d_F_at_19 : decode prog_1_method_7_code 19 = .ok (.goto 4, 3) := by decide +kernel
theorem d_F_at_22 : decode prog_1_method_7_code 22 = .ok (.iconst (-1), 1) := by decide +kernel
theorem d_F_at_23 : decode prog_1_method_7_code 23 = .ok (.ireturn, 1) := by decide +kernel
abbrev y_F_exact : MethodName := ⟨"FrameTables", "exact", "()Z"⟩
abbrev m_F_exact : MethodName × ByteArray × Nat × Option FieldType := (y_F_exact, prog_1_method_8_code, 1, some .boolean)
theorem mi_F_exact : .code y_F_exact prog_1_method_8_code 1 (some .boolean) ∈ wT := wT_m 371 (by decide +kernel) rfl
theorem d_F_exact_0 : decode prog_1_method_8_code 0 = .ok (.aload_n 0, 1) := by decide +kernel
theorem d_F_exact_1 : decode prog_1_method_8_code 1 = .ok (.getfield 49, 3) := by decide +kernel
theorem d_F_exact_4 : decode prog_1_method_8_code 4 = .ok (.ireturn, 1) := by decide +kernel
abbrev y_F_gap : MethodName := ⟨"FrameTables", "gap", "(II)I"⟩
abbrev m_F_gap : MethodName × ByteArray × Nat × Option FieldType := (y_F_gap, prog_1_method_9_code, 3, some .int)
theorem mi_F_gap : .code y_F_gap prog_1_method_9_code 3 (some .int) ∈ wT := wT_m 375 (by decide +kernel) rfl
theorem d_F_gap_0 : decode prog_1_method_9_code 0 = .ok (.aload_n 0, 1) := by decide +kernel
theorem d_F_gap_1 : decode prog_1_method_9_code 1 = .ok (.getfield 10, 3) := by decide +kernel
theorem d_F_gap_4 : decode prog_1_method_9_code 4 = .ok (.iload_n 1, 1) := by decide +kernel
theorem d_F_gap_5 : decode prog_1_method_9_code 5 = .ok (.invokevirtual 71, 3) := by decide +kernel
theorem d_F_gap_8 : decode prog_1_method_9_code 8 = .ok (.ifCond .ne 5, 3) := by decide +kernel
theorem d_F_gap_11 : decode prog_1_method_9_code 11 = .ok (.iconst (-1), 1) := by decide +kernel
theorem d_F_gap_12 : decode prog_1_method_9_code 12 = .ok (.ireturn, 1) := by decide +kernel
theorem d_F_gap_13 : decode prog_1_method_9_code 13 = .ok (.iload_n 2, 1) := by decide +kernel
theorem d_F_gap_14 : decode prog_1_method_9_code 14 = .ok (.ifCond .lt 15, 3) := by decide +kernel
theorem d_F_gap_17 : decode prog_1_method_9_code 17 = .ok (.iload_n 2, 1) := by decide +kernel
theorem d_F_gap_18 : decode prog_1_method_9_code 18 = .ok (.aload_n 0, 1) := by decide +kernel
theorem d_F_gap_19 : decode prog_1_method_9_code 19 = .ok (.getfield 10, 3) := by decide +kernel
theorem d_F_gap_22 : decode prog_1_method_9_code 22 = .ok (.iload_n 1, 1) := by decide +kernel
theorem d_F_gap_23 : decode prog_1_method_9_code 23 = .ok (.invokevirtual 120, 3) := by decide +kernel
theorem d_F_gap_26 : decode prog_1_method_9_code 26 = .ok (.if_icmp .le 6, 3) := by decide +kernel
theorem d_F_gap_29 : decode prog_1_method_9_code 29 = .ok (.bipush (-2), 2) := by decide +kernel
theorem d_F_gap_31 : decode prog_1_method_9_code 31 = .ok (.ireturn, 1) := by decide +kernel
theorem d_F_gap_32 : decode prog_1_method_9_code 32 = .ok (.aload_n 0, 1) := by decide +kernel
theorem d_F_gap_33 : decode prog_1_method_9_code 33 = .ok (.getfield 10, 3) := by decide +kernel
theorem d_F_gap_36 : decode prog_1_method_9_code 36 = .ok (.iload_n 1, 1) := by decide +kernel
theorem d_F_gap_37 : decode prog_1_method_9_code 37 = .ok (.iload_n 2, 1) := by decide +kernel
theorem d_F_gap_38 : decode prog_1_method_9_code 38 = .ok (.invokevirtual 123, 3) := by decide +kernel
theorem d_F_gap_41 : decode prog_1_method_9_code 41 = .ok (.iconst 1, 1) := by decide +kernel
theorem d_F_gap_42 : decode prog_1_method_9_code 42 = .ok (.ireturn, 1) := by decide +kernel
abbrev y_F_check : MethodName := ⟨"FrameTables", "check", "()I"⟩
abbrev m_F_check : MethodName × ByteArray × Nat × Option FieldType := (y_F_check, prog_1_method_10_code, 3, some .int)
theorem mi_F_check : .code y_F_check prog_1_method_10_code 3 (some .int) ∈ wT := wT_m 384 (by decide +kernel) rfl
theorem d_F_check_0 : decode prog_1_method_10_code 0 = .ok (.iconst 1, 1) := by decide +kernel
theorem d_F_check_1 : decode prog_1_method_10_code 1 = .ok (.istore_n 1, 1) := by decide +kernel
theorem d_F_check_2 : decode prog_1_method_10_code 2 = .ok (.iload_n 1, 1) := by decide +kernel
theorem d_F_check_3 : decode prog_1_method_10_code 3 = .ok (.iconst 4, 1) := by decide +kernel
theorem d_F_check_4 : decode prog_1_method_10_code 4 = .ok (.if_icmp .gt 45, 3) := by decide +kernel
theorem d_F_check_7 : decode prog_1_method_10_code 7 = .ok (.iconst 1, 1) := by decide +kernel
theorem d_F_check_8 : decode prog_1_method_10_code 8 = .ok (.istore_n 2, 1) := by decide +kernel
theorem d_F_check_9 : decode prog_1_method_10_code 9 = .ok (.iload_n 2, 1) := by decide +kernel
theorem d_F_check_10 : decode prog_1_method_10_code 10 = .ok (.aload_n 0, 1) := by decide +kernel
theorem d_F_check_11 : decode prog_1_method_10_code 11 = .ok (.getfield 10, 3) := by decide +kernel
theorem d_F_check_14 : decode prog_1_method_10_code 14 = .ok (.invokevirtual 127, 3) := by decide +kernel
theorem d_F_check_17 : decode prog_1_method_10_code 17 = .ok (.if_icmp .gt 26, 3) := by decide +kernel
theorem d_F_check_20 : decode prog_1_method_10_code 20 = .ok (.aload_n 0, 1) := by decide +kernel
theorem d_F_check_21 : decode prog_1_method_10_code 21 = .ok (.iload_n 1, 1) := by decide +kernel
theorem d_F_check_22 : decode prog_1_method_10_code 22 = .ok (.iload_n 2, 1) := by decide +kernel
theorem d_F_check_23 : decode prog_1_method_10_code 23 = .ok (.invokevirtual 131, 3) := by decide +kernel
theorem d_F_check_26 : decode prog_1_method_10_code 26 = .ok (.ifCond .eq 11, 3) := by decide +kernel
theorem d_F_check_29 : decode prog_1_method_10_code 29 = .ok (.sipush 1000, 3) := by decide +kernel
theorem d_F_check_32 : decode prog_1_method_10_code 32 = .ok (.iload_n 1, 1) := by decide +kernel
theorem d_F_check_33 : decode prog_1_method_10_code 33 = .ok (.imul, 1) := by decide +kernel
theorem d_F_check_34 : decode prog_1_method_10_code 34 = .ok (.iload_n 2, 1) := by decide +kernel
theorem d_F_check_35 : decode prog_1_method_10_code 35 = .ok (.iadd, 1) := by decide +kernel
theorem d_F_check_36 : decode prog_1_method_10_code 36 = .ok (.ireturn, 1) := by decide +kernel
theorem d_F_check_37 : decode prog_1_method_10_code 37 = .ok (.iinc 2 1, 3) := by decide +kernel
theorem d_F_check_40 : decode prog_1_method_10_code 40 = .ok (.goto (-31), 3) := by decide +kernel
theorem d_F_check_43 : decode prog_1_method_10_code 43 = .ok (.iinc 1 1, 3) := by decide +kernel
theorem d_F_check_46 : decode prog_1_method_10_code 46 = .ok (.goto (-44), 3) := by decide +kernel
theorem d_F_check_49 : decode prog_1_method_10_code 49 = .ok (.iconst 0, 1) := by decide +kernel
theorem d_F_check_50 : decode prog_1_method_10_code 50 = .ok (.ireturn, 1) := by decide +kernel
abbrev y_F_breaks : MethodName := ⟨"FrameTables", "breaks", "(II)Z"⟩
abbrev m_F_breaks : MethodName × ByteArray × Nat × Option FieldType := (y_F_breaks, prog_1_method_21_code, 3, some .boolean)
theorem mi_F_breaks : .code y_F_breaks prog_1_method_21_code 3 (some .boolean) ∈ wT := wT_m 389 (by decide +kernel) rfl
theorem d_F_breaks_0 : decode prog_1_method_21_code 0 = .ok (.iload_n 1, 1) := by decide +kernel
theorem d_F_breaks_1 : decode prog_1_method_21_code 1 = .ok (.tableswitch 81 1 4 #[31, 46, 63, 72], 31) := by decide +kernel
theorem d_F_breaks_32 : decode prog_1_method_21_code 32 = .ok (.aload_n 0, 1) := by decide +kernel
theorem d_F_breaks_33 : decode prog_1_method_21_code 33 = .ok (.iload_n 2, 1) := by decide +kernel
theorem d_F_breaks_34 : decode prog_1_method_21_code 34 = .ok (.invokevirtual 85, 3) := by decide +kernel
theorem d_F_breaks_37 : decode prog_1_method_21_code 37 = .ok (.iconst (-1), 1) := by decide +kernel
theorem d_F_breaks_38 : decode prog_1_method_21_code 38 = .ok (.if_icmp .ne 7, 3) := by decide +kernel
theorem d_F_breaks_41 : decode prog_1_method_21_code 41 = .ok (.iconst 1, 1) := by decide +kernel
theorem d_F_breaks_42 : decode prog_1_method_21_code 42 = .ok (.goto 4, 3) := by decide +kernel
theorem d_F_breaks_45 : decode prog_1_method_21_code 45 = .ok (.iconst 0, 1) := by decide +kernel
theorem d_F_breaks_46 : decode prog_1_method_21_code 46 = .ok (.ireturn, 1) := by decide +kernel
theorem d_F_breaks_47 : decode prog_1_method_21_code 47 = .ok (.aload_n 0, 1) := by decide +kernel
theorem d_F_breaks_48 : decode prog_1_method_21_code 48 = .ok (.getfield 10, 3) := by decide +kernel
theorem d_F_breaks_51 : decode prog_1_method_21_code 51 = .ok (.iload_n 2, 1) := by decide +kernel
theorem d_F_breaks_52 : decode prog_1_method_21_code 52 = .ok (.invokevirtual 82, 3) := by decide +kernel
theorem d_F_breaks_55 : decode prog_1_method_21_code 55 = .ok (.ifCond .ne 7, 3) := by decide +kernel
theorem d_F_breaks_58 : decode prog_1_method_21_code 58 = .ok (.iconst 1, 1) := by decide +kernel
theorem d_F_breaks_59 : decode prog_1_method_21_code 59 = .ok (.goto 4, 3) := by decide +kernel
theorem d_F_breaks_62 : decode prog_1_method_21_code 62 = .ok (.iconst 0, 1) := by decide +kernel
theorem d_F_breaks_63 : decode prog_1_method_21_code 63 = .ok (.ireturn, 1) := by decide +kernel
theorem d_F_breaks_64 : decode prog_1_method_21_code 64 = .ok (.aload_n 0, 1) := by decide +kernel
theorem d_F_breaks_65 : decode prog_1_method_21_code 65 = .ok (.getfield 10, 3) := by decide +kernel
theorem d_F_breaks_68 : decode prog_1_method_21_code 68 = .ok (.iload_n 2, 1) := by decide +kernel
theorem d_F_breaks_69 : decode prog_1_method_21_code 69 = .ok (.invokevirtual 171, 3) := by decide +kernel
theorem d_F_breaks_72 : decode prog_1_method_21_code 72 = .ok (.ireturn, 1) := by decide +kernel
theorem d_F_breaks_73 : decode prog_1_method_21_code 73 = .ok (.aload_n 0, 1) := by decide +kernel
theorem d_F_breaks_74 : decode prog_1_method_21_code 74 = .ok (.getfield 10, 3) := by decide +kernel
theorem d_F_breaks_77 : decode prog_1_method_21_code 77 = .ok (.iload_n 2, 1) := by decide +kernel
theorem d_F_breaks_78 : decode prog_1_method_21_code 78 = .ok (.invokevirtual 174, 3) := by decide +kernel
theorem d_F_breaks_81 : decode prog_1_method_21_code 81 = .ok (.ireturn, 1) := by decide +kernel
theorem d_F_breaks_82 : decode prog_1_method_21_code 82 = .ok (.iconst 0, 1) := by decide +kernel
theorem d_F_breaks_83 : decode prog_1_method_21_code 83 = .ok (.ireturn, 1) := by decide +kernel
abbrev y_F_sign : MethodName := ⟨"FrameTables", "sign", "(I)V"⟩
abbrev m_F_sign : MethodName × ByteArray × Nat × Option FieldType := (y_F_sign, prog_1_method_11_code, 4, none)
theorem mi_F_sign : .code y_F_sign prog_1_method_11_code 4 none ∈ wT := wT_m 401 (by decide +kernel) rfl
theorem d_F_sign_0 : decode prog_1_method_11_code 0 = .ok (.bipush 24, 2) := by decide +kernel
theorem d_F_sign_2 : decode prog_1_method_11_code 2 = .ok (.istore_n 2, 1) := by decide +kernel
theorem d_F_sign_3 : decode prog_1_method_11_code 3 = .ok (.iload_n 2, 1) := by decide +kernel
theorem d_F_sign_4 : decode prog_1_method_11_code 4 = .ok (.ifCond .lt 30, 3) := by decide +kernel
theorem d_F_sign_7 : decode prog_1_method_11_code 7 = .ok (.iload_n 1, 1) := by decide +kernel
theorem d_F_sign_8 : decode prog_1_method_11_code 8 = .ok (.iload_n 2, 1) := by decide +kernel
theorem d_F_sign_9 : decode prog_1_method_11_code 9 = .ok (.iushr, 1) := by decide +kernel
theorem d_F_sign_10 : decode prog_1_method_11_code 10 = .ok (.sipush 255, 3) := by decide +kernel
theorem d_F_sign_13 : decode prog_1_method_11_code 13 = .ok (.iand, 1) := by decide +kernel
theorem d_F_sign_14 : decode prog_1_method_11_code 14 = .ok (.istore_n 3, 1) := by decide +kernel
theorem d_F_sign_15 : decode prog_1_method_11_code 15 = .ok (.iload_n 3, 1) := by decide +kernel
theorem d_F_sign_16 : decode prog_1_method_11_code 16 = .ok (.ifCond .eq 12, 3) := by decide +kernel
theorem d_F_sign_19 : decode prog_1_method_11_code 19 = .ok (.aload_n 0, 1) := by decide +kernel
theorem d_F_sign_20 : decode prog_1_method_11_code 20 = .ok (.getfield 29, 3) := by decide +kernel
theorem d_F_sign_23 : decode prog_1_method_11_code 23 = .ok (.iload_n 3, 1) := by decide +kernel
theorem d_F_sign_24 : decode prog_1_method_11_code 24 = .ok (.i2c, 1) := by decide +kernel
theorem d_F_sign_25 : decode prog_1_method_11_code 25 = .ok (.invokevirtual 135, 3) := by decide +kernel
theorem d_F_sign_28 : decode prog_1_method_11_code 28 = .ok (.iinc 2 (-8), 3) := by decide +kernel
theorem d_F_sign_31 : decode prog_1_method_11_code 31 = .ok (.goto (-28), 3) := by decide +kernel
theorem d_F_sign_34 : decode prog_1_method_11_code 34 = .ok (.return_, 1) := by decide +kernel
abbrev y_F_read : MethodName := ⟨"FrameTables", "read", "()I"⟩
abbrev m_F_read : MethodName × ByteArray × Nat × Option FieldType := (y_F_read, prog_1_method_12_code, 3, some .int)
theorem mi_F_read : .code y_F_read prog_1_method_12_code 3 (some .int) ∈ wT := wT_m 409 (by decide +kernel) rfl
theorem d_F_read_0 : decode prog_1_method_12_code 0 = .ok (.aload_n 0, 1) := by decide +kernel
theorem d_F_read_1 : decode prog_1_method_12_code 1 = .ok (.getfield 38, 3) := by decide +kernel
theorem d_F_read_4 : decode prog_1_method_12_code 4 = .ok (.aload_n 0, 1) := by decide +kernel
theorem d_F_read_5 : decode prog_1_method_12_code 5 = .ok (.getfield 16, 3) := by decide +kernel
theorem d_F_read_8 : decode prog_1_method_12_code 8 = .ok (.invokevirtual 139, 3) := by decide +kernel
theorem d_F_read_11 : decode prog_1_method_12_code 11 = .ok (.istore_n 1, 1) := by decide +kernel
theorem d_F_read_12 : decode prog_1_method_12_code 12 = .ok (.aload_n 0, 1) := by decide +kernel
theorem d_F_read_13 : decode prog_1_method_12_code 13 = .ok (.getfield 29, 3) := by decide +kernel
theorem d_F_read_16 : decode prog_1_method_12_code 16 = .ok (.invokevirtual 142, 3) := by decide +kernel
theorem d_F_read_19 : decode prog_1_method_12_code 19 = .ok (.iload_n 1, 1) := by decide +kernel
theorem d_F_read_20 : decode prog_1_method_12_code 20 = .ok (.ifCond .le 6, 3) := by decide +kernel
theorem d_F_read_23 : decode prog_1_method_12_code 23 = .ok (.iload_n 1, 1) := by decide +kernel
theorem d_F_read_24 : decode prog_1_method_12_code 24 = .ok (.ineg, 1) := by decide +kernel
theorem d_F_read_25 : decode prog_1_method_12_code 25 = .ok (.ireturn, 1) := by decide +kernel
theorem d_F_read_26 : decode prog_1_method_12_code 26 = .ok (.aload_n 0, 1) := by decide +kernel
theorem d_F_read_27 : decode prog_1_method_12_code 27 = .ok (.getfield 10, 3) := by decide +kernel
theorem d_F_read_30 : decode prog_1_method_12_code 30 = .ok (.astore_n 2, 1) := by decide +kernel
theorem d_F_read_31 : decode prog_1_method_12_code 31 = .ok (.aload_n 0, 1) := by decide +kernel
theorem d_F_read_32 : decode prog_1_method_12_code 32 = .ok (.aload_n 0, 1) := by decide +kernel
theorem d_F_read_33 : decode prog_1_method_12_code 33 = .ok (.getfield 16, 3) := by decide +kernel
theorem d_F_read_36 : decode prog_1_method_12_code 36 = .ok (.putfield 10, 3) := by decide +kernel
theorem d_F_read_39 : decode prog_1_method_12_code 39 = .ok (.aload_n 0, 1) := by decide +kernel
theorem d_F_read_40 : decode prog_1_method_12_code 40 = .ok (.aload_n 2, 1) := by decide +kernel
theorem d_F_read_41 : decode prog_1_method_12_code 41 = .ok (.putfield 16, 3) := by decide +kernel
theorem d_F_read_44 : decode prog_1_method_12_code 44 = .ok (.aload_n 0, 1) := by decide +kernel
theorem d_F_read_45 : decode prog_1_method_12_code 45 = .ok (.iconst 0, 1) := by decide +kernel
theorem d_F_read_46 : decode prog_1_method_12_code 46 = .ok (.putfield 49, 3) := by decide +kernel
theorem d_F_read_49 : decode prog_1_method_12_code 49 = .ok (.aload_n 0, 1) := by decide +kernel
theorem d_F_read_50 : decode prog_1_method_12_code 50 = .ok (.getfield 10, 3) := by decide +kernel
theorem d_F_read_53 : decode prog_1_method_12_code 53 = .ok (.invokevirtual 127, 3) := by decide +kernel
theorem d_F_read_56 : decode prog_1_method_12_code 56 = .ok (.ireturn, 1) := by decide +kernel
abbrev y_P_fill : MethodName := ⟨"FrameTables$Parser", "fill", "(LFrameTables$Table;)I"⟩
abbrev m_P_fill : MethodName × ByteArray × Nat × Option FieldType := (y_P_fill, prog_2_method_2_code, 5, some .int)
theorem mi_P_fill : .code y_P_fill prog_2_method_2_code 5 (some .int) ∈ wT := wT_m 413 (by decide +kernel) rfl
theorem d_P_fill_0 : decode prog_2_method_2_code 0 = .ok (.aload_n 1, 1) := by decide +kernel
theorem d_P_fill_1 : decode prog_2_method_2_code 1 = .ok (.invokevirtual 25, 3) := by decide +kernel
theorem d_P_fill_4 : decode prog_2_method_2_code 4 = .ok (.iconst 1, 1) := by decide +kernel
theorem d_P_fill_5 : decode prog_2_method_2_code 5 = .ok (.istore_n 2, 1) := by decide +kernel
theorem d_P_fill_6 : decode prog_2_method_2_code 6 = .ok (.iconst 0, 1) := by decide +kernel
theorem d_P_fill_7 : decode prog_2_method_2_code 7 = .ok (.istore_n 3, 1) := by decide +kernel
theorem d_P_fill_8 : decode prog_2_method_2_code 8 = .ok (.iconst 0, 1) := by decide +kernel
theorem d_P_fill_9 : decode prog_2_method_2_code 9 = .ok (.istore 4, 2) := by decide +kernel
theorem d_P_fill_11 : decode prog_2_method_2_code 11 = .ok (.iload 4, 2) := by decide +kernel
theorem d_P_fill_13 : decode prog_2_method_2_code 13 = .ok (.aload_n 0, 1) := by decide +kernel
theorem d_P_fill_14 : decode prog_2_method_2_code 14 = .ok (.getfield 21, 3) := by decide +kernel
theorem d_P_fill_17 : decode prog_2_method_2_code 17 = .ok (.invokevirtual 30, 3) := by decide +kernel
theorem d_P_fill_20 : decode prog_2_method_2_code 20 = .ok (.if_icmp .gt 56, 3) := by decide +kernel
theorem d_P_fill_23 : decode prog_2_method_2_code 23 = .ok (.iload 4, 2) := by decide +kernel
theorem d_P_fill_25 : decode prog_2_method_2_code 25 = .ok (.aload_n 0, 1) := by decide +kernel
theorem d_P_fill_26 : decode prog_2_method_2_code 26 = .ok (.getfield 21, 3) := by decide +kernel
theorem d_P_fill_29 : decode prog_2_method_2_code 29 = .ok (.invokevirtual 30, 3) := by decide +kernel
theorem d_P_fill_32 : decode prog_2_method_2_code 32 = .ok (.if_icmp .eq 17, 3) := by decide +kernel
theorem d_P_fill_35 : decode prog_2_method_2_code 35 = .ok (.aload_n 0, 1) := by decide +kernel
theorem d_P_fill_36 : decode prog_2_method_2_code 36 = .ok (.getfield 21, 3) := by decide +kernel
theorem d_P_fill_39 : decode prog_2_method_2_code 39 = .ok (.iload 4, 2) := by decide +kernel
theorem d_P_fill_41 : decode prog_2_method_2_code 41 = .ok (.invokevirtual 36, 3) := by decide +kernel
theorem d_P_fill_44 : decode prog_2_method_2_code 44 = .ok (.bipush 10, 2) := by decide +kernel
theorem d_P_fill_46 : decode prog_2_method_2_code 46 = .ok (.if_icmp .ne 24, 3) := by decide +kernel
theorem d_P_fill_49 : decode prog_2_method_2_code 49 = .ok (.aload_n 0, 1) := by decide +kernel
theorem d_P_fill_50 : decode prog_2_method_2_code 50 = .ok (.iload_n 3, 1) := by decide +kernel
theorem d_P_fill_51 : decode prog_2_method_2_code 51 = .ok (.iload 4, 2) := by decide +kernel
theorem d_P_fill_53 : decode prog_2_method_2_code 53 = .ok (.aload_n 1, 1) := by decide +kernel
theorem d_P_fill_54 : decode prog_2_method_2_code 54 = .ok (.invokevirtual 40, 3) := by decide +kernel
theorem d_P_fill_57 : decode prog_2_method_2_code 57 = .ok (.ifCond .ne 5, 3) := by decide +kernel
theorem d_P_fill_60 : decode prog_2_method_2_code 60 = .ok (.iload_n 2, 1) := by decide +kernel
theorem d_P_fill_61 : decode prog_2_method_2_code 61 = .ok (.ireturn, 1) := by decide +kernel
theorem d_P_fill_62 : decode prog_2_method_2_code 62 = .ok (.iinc 2 1, 3) := by decide +kernel
theorem d_P_fill_65 : decode prog_2_method_2_code 65 = .ok (.iload 4, 2) := by decide +kernel
theorem d_P_fill_67 : decode prog_2_method_2_code 67 = .ok (.iconst 1, 1) := by decide +kernel
theorem d_P_fill_68 : decode prog_2_method_2_code 68 = .ok (.iadd, 1) := by decide +kernel
theorem d_P_fill_69 : decode prog_2_method_2_code 69 = .ok (.istore_n 3, 1) := by decide +kernel
theorem d_P_fill_70 : decode prog_2_method_2_code 70 = .ok (.iinc 4 1, 3) := by decide +kernel
theorem d_P_fill_73 : decode prog_2_method_2_code 73 = .ok (.goto (-62), 3) := by decide +kernel
theorem d_P_fill_76 : decode prog_2_method_2_code 76 = .ok (.iconst 0, 1) := by decide +kernel
theorem d_P_fill_77 : decode prog_2_method_2_code 77 = .ok (.ireturn, 1) := by decide +kernel
abbrev y_P_takeLine : MethodName := ⟨"FrameTables$Parser", "takeLine", "(IILFrameTables$Table;)Z"⟩
abbrev m_P_takeLine : MethodName × ByteArray × Nat × Option FieldType := (y_P_takeLine, prog_2_method_3_code, 4, some .boolean)
theorem mi_P_takeLine : .code y_P_takeLine prog_2_method_3_code 4 (some .boolean) ∈ wT := wT_m 429 (by decide +kernel) rfl
theorem d_P_takeLine_0 : decode prog_2_method_3_code 0 = .ok (.aload_n 0, 1) := by decide +kernel
theorem d_P_takeLine_1 : decode prog_2_method_3_code 1 = .ok (.iload_n 1, 1) := by decide +kernel
theorem d_P_takeLine_2 : decode prog_2_method_3_code 2 = .ok (.putfield 15, 3) := by decide +kernel
theorem d_P_takeLine_5 : decode prog_2_method_3_code 5 = .ok (.aload_n 0, 1) := by decide +kernel
theorem d_P_takeLine_6 : decode prog_2_method_3_code 6 = .ok (.iload_n 2, 1) := by decide +kernel
theorem d_P_takeLine_7 : decode prog_2_method_3_code 7 = .ok (.putfield 18, 3) := by decide +kernel
theorem d_P_takeLine_10 : decode prog_2_method_3_code 10 = .ok (.aload_n 0, 1) := by decide +kernel
theorem d_P_takeLine_11 : decode prog_2_method_3_code 11 = .ok (.invokevirtual 44, 3) := by decide +kernel
theorem d_P_takeLine_14 : decode prog_2_method_3_code 14 = .ok (.ifCond .ne 5, 3) := by decide +kernel
theorem d_P_takeLine_17 : decode prog_2_method_3_code 17 = .ok (.iconst 1, 1) := by decide +kernel
theorem d_P_takeLine_18 : decode prog_2_method_3_code 18 = .ok (.ireturn, 1) := by decide +kernel
theorem d_P_takeLine_19 : decode prog_2_method_3_code 19 = .ok (.aload_n 0, 1) := by decide +kernel
theorem d_P_takeLine_20 : decode prog_2_method_3_code 20 = .ok (.ldc 48, 2) := by decide +kernel
theorem d_P_takeLine_22 : decode prog_2_method_3_code 22 = .ok (.invokevirtual 50, 3) := by decide +kernel
theorem d_P_takeLine_25 : decode prog_2_method_3_code 25 = .ok (.ifCond .eq 23, 3) := by decide +kernel
theorem d_P_takeLine_28 : decode prog_2_method_3_code 28 = .ok (.aload_n 0, 1) := by decide +kernel
theorem d_P_takeLine_29 : decode prog_2_method_3_code 29 = .ok (.aload_n 3, 1) := by decide +kernel
theorem d_P_takeLine_30 : decode prog_2_method_3_code 30 = .ok (.invokevirtual 54, 3) := by decide +kernel
theorem d_P_takeLine_33 : decode prog_2_method_3_code 33 = .ok (.ifCond .eq 15, 3) := by decide +kernel
theorem d_P_takeLine_36 : decode prog_2_method_3_code 36 = .ok (.aload_n 0, 1) := by decide +kernel
theorem d_P_takeLine_37 : decode prog_2_method_3_code 37 = .ok (.aload_n 3, 1) := by decide +kernel
theorem d_P_takeLine_38 : decode prog_2_method_3_code 38 = .ok (.invokevirtual 58, 3) := by decide +kernel
theorem d_P_takeLine_41 : decode prog_2_method_3_code 41 = .ok (.ifCond .eq 7, 3) := by decide +kernel
theorem d_P_takeLine_44 : decode prog_2_method_3_code 44 = .ok (.iconst 1, 1) := by decide +kernel
theorem d_P_takeLine_45 : decode prog_2_method_3_code 45 = .ok (.goto 4, 3) := by decide +kernel
theorem d_P_takeLine_48 : decode prog_2_method_3_code 48 = .ok (.iconst 0, 1) := by decide +kernel
theorem d_P_takeLine_49 : decode prog_2_method_3_code 49 = .ok (.ireturn, 1) := by decide +kernel
abbrev y_P_nextWord : MethodName := ⟨"FrameTables$Parser", "nextWord", "()Z"⟩
abbrev m_P_nextWord : MethodName × ByteArray × Nat × Option FieldType := (y_P_nextWord, prog_2_method_7_code, 1, some .boolean)
theorem mi_P_nextWord : .code y_P_nextWord prog_2_method_7_code 1 (some .boolean) ∈ wT := wT_m 433 (by decide +kernel) rfl
theorem d_P_nextWord_0 : decode prog_2_method_7_code 0 = .ok (.aload_n 0, 1) := by decide +kernel
theorem d_P_nextWord_1 : decode prog_2_method_7_code 1 = .ok (.aload_n 0, 1) := by decide +kernel
theorem d_P_nextWord_2 : decode prog_2_method_7_code 2 = .ok (.getfield 15, 3) := by decide +kernel
theorem d_P_nextWord_5 : decode prog_2_method_7_code 5 = .ok (.putfield 9, 3) := by decide +kernel
theorem d_P_nextWord_8 : decode prog_2_method_7_code 8 = .ok (.aload_n 0, 1) := by decide +kernel
theorem d_P_nextWord_9 : decode prog_2_method_7_code 9 = .ok (.getfield 9, 3) := by decide +kernel
theorem d_P_nextWord_12 : decode prog_2_method_7_code 12 = .ok (.aload_n 0, 1) := by decide +kernel
theorem d_P_nextWord_13 : decode prog_2_method_7_code 13 = .ok (.getfield 18, 3) := by decide +kernel
theorem d_P_nextWord_16 : decode prog_2_method_7_code 16 = .ok (.if_icmp .ge 32, 3) := by decide +kernel
theorem d_P_nextWord_19 : decode prog_2_method_7_code 19 = .ok (.aload_n 0, 1) := by decide +kernel
theorem d_P_nextWord_20 : decode prog_2_method_7_code 20 = .ok (.getfield 21, 3) := by decide +kernel
theorem d_P_nextWord_23 : decode prog_2_method_7_code 23 = .ok (.aload_n 0, 1) := by decide +kernel
theorem d_P_nextWord_24 : decode prog_2_method_7_code 24 = .ok (.getfield 9, 3) := by decide +kernel
theorem d_P_nextWord_27 : decode prog_2_method_7_code 27 = .ok (.invokevirtual 36, 3) := by decide +kernel
theorem d_P_nextWord_30 : decode prog_2_method_7_code 30 = .ok (.bipush 32, 2) := by decide +kernel
theorem d_P_nextWord_32 : decode prog_2_method_7_code 32 = .ok (.if_icmp .ne 16, 3) := by decide +kernel
theorem d_P_nextWord_35 : decode prog_2_method_7_code 35 = .ok (.aload_n 0, 1) := by decide +kernel
theorem d_P_nextWord_36 : decode prog_2_method_7_code 36 = .ok (.dup, 1) := by decide +kernel
theorem d_P_nextWord_37 : decode prog_2_method_7_code 37 = .ok (.getfield 9, 3) := by decide +kernel
theorem d_P_nextWord_40 : decode prog_2_method_7_code 40 = .ok (.iconst 1, 1) := by decide +kernel
theorem d_P_nextWord_41 : decode prog_2_method_7_code 41 = .ok (.iadd, 1) := by decide +kernel
theorem d_P_nextWord_42 : decode prog_2_method_7_code 42 = .ok (.putfield 9, 3) := by decide +kernel
theorem d_P_nextWord_45 : decode prog_2_method_7_code 45 = .ok (.goto (-37), 3) := by decide +kernel
theorem d_P_nextWord_48 : decode prog_2_method_7_code 48 = .ok (.aload_n 0, 1) := by decide +kernel
theorem d_P_nextWord_49 : decode prog_2_method_7_code 49 = .ok (.aload_n 0, 1) := by decide +kernel
theorem d_P_nextWord_50 : decode prog_2_method_7_code 50 = .ok (.getfield 9, 3) := by decide +kernel
theorem d_P_nextWord_53 : decode prog_2_method_7_code 53 = .ok (.putfield 15, 3) := by decide +kernel
theorem d_P_nextWord_56 : decode prog_2_method_7_code 56 = .ok (.aload_n 0, 1) := by decide +kernel
theorem d_P_nextWord_57 : decode prog_2_method_7_code 57 = .ok (.getfield 15, 3) := by decide +kernel
theorem d_P_nextWord_60 : decode prog_2_method_7_code 60 = .ok (.aload_n 0, 1) := by decide +kernel
theorem d_P_nextWord_61 : decode prog_2_method_7_code 61 = .ok (.getfield 18, 3) := by decide +kernel
theorem d_P_nextWord_64 : decode prog_2_method_7_code 64 = .ok (.if_icmp .ge 32, 3) := by decide +kernel
theorem d_P_nextWord_67 : decode prog_2_method_7_code 67 = .ok (.aload_n 0, 1) := by decide +kernel
theorem d_P_nextWord_68 : decode prog_2_method_7_code 68 = .ok (.getfield 21, 3) := by decide +kernel
theorem d_P_nextWord_71 : decode prog_2_method_7_code 71 = .ok (.aload_n 0, 1) := by decide +kernel
theorem d_P_nextWord_72 : decode prog_2_method_7_code 72 = .ok (.getfield 15, 3) := by decide +kernel
theorem d_P_nextWord_75 : decode prog_2_method_7_code 75 = .ok (.invokevirtual 36, 3) := by decide +kernel
theorem d_P_nextWord_78 : decode prog_2_method_7_code 78 = .ok (.bipush 32, 2) := by decide +kernel
theorem d_P_nextWord_80 : decode prog_2_method_7_code 80 = .ok (.if_icmp .eq 16, 3) := by decide +kernel
theorem d_P_nextWord_83 : decode prog_2_method_7_code 83 = .ok (.aload_n 0, 1) := by decide +kernel
theorem d_P_nextWord_84 : decode prog_2_method_7_code 84 = .ok (.dup, 1) := by decide +kernel
theorem d_P_nextWord_85 : decode prog_2_method_7_code 85 = .ok (.getfield 15, 3) := by decide +kernel
theorem d_P_nextWord_88 : decode prog_2_method_7_code 88 = .ok (.iconst 1, 1) := by decide +kernel
theorem d_P_nextWord_89 : decode prog_2_method_7_code 89 = .ok (.iadd, 1) := by decide +kernel
theorem d_P_nextWord_90 : decode prog_2_method_7_code 90 = .ok (.putfield 15, 3) := by decide +kernel
theorem d_P_nextWord_93 : decode prog_2_method_7_code 93 = .ok (.goto (-37), 3) := by decide +kernel
theorem d_P_nextWord_96 : decode prog_2_method_7_code 96 = .ok (.aload_n 0, 1) := by decide +kernel
theorem d_P_nextWord_97 : decode prog_2_method_7_code 97 = .ok (.getfield 15, 3) := by decide +kernel
theorem d_P_nextWord_100 : decode prog_2_method_7_code 100 = .ok (.aload_n 0, 1) := by decide +kernel
theorem d_P_nextWord_101 : decode prog_2_method_7_code 101 = .ok (.getfield 9, 3) := by decide +kernel
theorem d_P_nextWord_104 : decode prog_2_method_7_code 104 = .ok (.if_icmp .le 7, 3) := by decide +kernel
theorem d_P_nextWord_107 : decode prog_2_method_7_code 107 = .ok (.iconst 1, 1) := by decide +kernel
theorem d_P_nextWord_108 : decode prog_2_method_7_code 108 = .ok (.goto 4, 3) := by decide +kernel
theorem d_P_nextWord_111 : decode prog_2_method_7_code 111 = .ok (.iconst 0, 1) := by decide +kernel
theorem d_P_nextWord_112 : decode prog_2_method_7_code 112 = .ok (.ireturn, 1) := by decide +kernel
abbrev y_P_wordIs : MethodName := ⟨"FrameTables$Parser", "wordIs", "(Ljava/lang/String;)Z"⟩
abbrev m_P_wordIs : MethodName × ByteArray × Nat × Option FieldType := (y_P_wordIs, prog_2_method_8_code, 3, some .boolean)
theorem mi_P_wordIs : .code y_P_wordIs prog_2_method_8_code 3 (some .boolean) ∈ wT := wT_m 438 (by decide +kernel) rfl
theorem d_P_wordIs_0 : decode prog_2_method_8_code 0 = .ok (.aload_n 0, 1) := by decide +kernel
theorem d_P_wordIs_1 : decode prog_2_method_8_code 1 = .ok (.getfield 15, 3) := by decide +kernel
theorem d_P_wordIs_4 : decode prog_2_method_8_code 4 = .ok (.aload_n 0, 1) := by decide +kernel
theorem d_P_wordIs_5 : decode prog_2_method_8_code 5 = .ok (.getfield 9, 3) := by decide +kernel
theorem d_P_wordIs_8 : decode prog_2_method_8_code 8 = .ok (.isub, 1) := by decide +kernel
theorem d_P_wordIs_9 : decode prog_2_method_8_code 9 = .ok (.aload_n 1, 1) := by decide +kernel
theorem d_P_wordIs_10 : decode prog_2_method_8_code 10 = .ok (.invokevirtual 97, 3) := by decide +kernel
theorem d_P_wordIs_13 : decode prog_2_method_8_code 13 = .ok (.if_icmp .eq 5, 3) := by decide +kernel
theorem d_P_wordIs_16 : decode prog_2_method_8_code 16 = .ok (.iconst 0, 1) := by decide +kernel
theorem d_P_wordIs_17 : decode prog_2_method_8_code 17 = .ok (.ireturn, 1) := by decide +kernel
theorem d_P_wordIs_18 : decode prog_2_method_8_code 18 = .ok (.iconst 0, 1) := by decide +kernel
theorem d_P_wordIs_19 : decode prog_2_method_8_code 19 = .ok (.istore_n 2, 1) := by decide +kernel
theorem d_P_wordIs_20 : decode prog_2_method_8_code 20 = .ok (.iload_n 2, 1) := by decide +kernel
theorem d_P_wordIs_21 : decode prog_2_method_8_code 21 = .ok (.aload_n 1, 1) := by decide +kernel
theorem d_P_wordIs_22 : decode prog_2_method_8_code 22 = .ok (.invokevirtual 97, 3) := by decide +kernel
theorem d_P_wordIs_25 : decode prog_2_method_8_code 25 = .ok (.if_icmp .ge 32, 3) := by decide +kernel
theorem d_P_wordIs_28 : decode prog_2_method_8_code 28 = .ok (.aload_n 0, 1) := by decide +kernel
theorem d_P_wordIs_29 : decode prog_2_method_8_code 29 = .ok (.getfield 21, 3) := by decide +kernel
theorem d_P_wordIs_32 : decode prog_2_method_8_code 32 = .ok (.aload_n 0, 1) := by decide +kernel
theorem d_P_wordIs_33 : decode prog_2_method_8_code 33 = .ok (.getfield 9, 3) := by decide +kernel
theorem d_P_wordIs_36 : decode prog_2_method_8_code 36 = .ok (.iload_n 2, 1) := by decide +kernel
theorem d_P_wordIs_37 : decode prog_2_method_8_code 37 = .ok (.iadd, 1) := by decide +kernel
theorem d_P_wordIs_38 : decode prog_2_method_8_code 38 = .ok (.invokevirtual 36, 3) := by decide +kernel
theorem d_P_wordIs_41 : decode prog_2_method_8_code 41 = .ok (.aload_n 1, 1) := by decide +kernel
theorem d_P_wordIs_42 : decode prog_2_method_8_code 42 = .ok (.iload_n 2, 1) := by decide +kernel
theorem d_P_wordIs_43 : decode prog_2_method_8_code 43 = .ok (.invokevirtual 100, 3) := by decide +kernel
theorem d_P_wordIs_46 : decode prog_2_method_8_code 46 = .ok (.if_icmp .eq 5, 3) := by decide +kernel
theorem d_P_wordIs_49 : decode prog_2_method_8_code 49 = .ok (.iconst 0, 1) := by decide +kernel
theorem d_P_wordIs_50 : decode prog_2_method_8_code 50 = .ok (.ireturn, 1) := by decide +kernel
theorem d_P_wordIs_51 : decode prog_2_method_8_code 51 = .ok (.iinc 2 1, 3) := by decide +kernel
theorem d_P_wordIs_54 : decode prog_2_method_8_code 54 = .ok (.goto (-34), 3) := by decide +kernel
theorem d_P_wordIs_57 : decode prog_2_method_8_code 57 = .ok (.iconst 1, 1) := by decide +kernel
theorem d_P_wordIs_58 : decode prog_2_method_8_code 58 = .ok (.ireturn, 1) := by decide +kernel
abbrev y_P_takeFrame : MethodName := ⟨"FrameTables$Parser", "takeFrame", "(LFrameTables$Table;)Z"⟩
abbrev m_P_takeFrame : MethodName × ByteArray × Nat × Option FieldType := (y_P_takeFrame, prog_2_method_4_code, 6, some .boolean)
theorem mi_P_takeFrame : .code y_P_takeFrame prog_2_method_4_code 6 (some .boolean) ∈ wT := wT_m 490 (by decide +kernel) rfl
theorem d_P_takeFrame_0 : decode prog_2_method_4_code 0 = .ok (.aload_n 0, 1) := by decide +kernel
theorem d_P_takeFrame_1 : decode prog_2_method_4_code 1 = .ok (.invokevirtual 61, 3) := by decide +kernel
theorem d_P_takeFrame_4 : decode prog_2_method_4_code 4 = .ok (.istore_n 2, 1) := by decide +kernel
theorem d_P_takeFrame_5 : decode prog_2_method_4_code 5 = .ok (.aload_n 0, 1) := by decide +kernel
theorem d_P_takeFrame_6 : decode prog_2_method_4_code 6 = .ok (.invokevirtual 61, 3) := by decide +kernel
theorem d_P_takeFrame_9 : decode prog_2_method_4_code 9 = .ok (.istore_n 3, 1) := by decide +kernel
theorem d_P_takeFrame_10 : decode prog_2_method_4_code 10 = .ok (.aload_n 0, 1) := by decide +kernel
theorem d_P_takeFrame_11 : decode prog_2_method_4_code 11 = .ok (.invokevirtual 61, 3) := by decide +kernel
theorem d_P_takeFrame_14 : decode prog_2_method_4_code 14 = .ok (.istore 4, 2) := by decide +kernel
theorem d_P_takeFrame_16 : decode prog_2_method_4_code 16 = .ok (.aload_n 0, 1) := by decide +kernel
theorem d_P_takeFrame_17 : decode prog_2_method_4_code 17 = .ok (.invokevirtual 61, 3) := by decide +kernel
theorem d_P_takeFrame_20 : decode prog_2_method_4_code 20 = .ok (.istore 5, 2) := by decide +kernel
theorem d_P_takeFrame_22 : decode prog_2_method_4_code 22 = .ok (.iload_n 2, 1) := by decide +kernel
theorem d_P_takeFrame_23 : decode prog_2_method_4_code 23 = .ok (.invokestatic 64, 3) := by decide +kernel
theorem d_P_takeFrame_26 : decode prog_2_method_4_code 26 = .ok (.ifCond .eq 18, 3) := by decide +kernel
theorem d_P_takeFrame_29 : decode prog_2_method_4_code 29 = .ok (.iload_n 3, 1) := by decide +kernel
theorem d_P_takeFrame_30 : decode prog_2_method_4_code 30 = .ok (.invokestatic 68, 3) := by decide +kernel
theorem d_P_takeFrame_33 : decode prog_2_method_4_code 33 = .ok (.ifCond .eq 11, 3) := by decide +kernel
theorem d_P_takeFrame_36 : decode prog_2_method_4_code 36 = .ok (.iload 4, 2) := by decide +kernel
theorem d_P_takeFrame_38 : decode prog_2_method_4_code 38 = .ok (.invokestatic 71, 3) := by decide +kernel
theorem d_P_takeFrame_41 : decode prog_2_method_4_code 41 = .ok (.ifCond .ne 5, 3) := by decide +kernel
theorem d_P_takeFrame_44 : decode prog_2_method_4_code 44 = .ok (.iconst 0, 1) := by decide +kernel
theorem d_P_takeFrame_45 : decode prog_2_method_4_code 45 = .ok (.ireturn, 1) := by decide +kernel
theorem d_P_takeFrame_46 : decode prog_2_method_4_code 46 = .ok (.iload 5, 2) := by decide +kernel
theorem d_P_takeFrame_48 : decode prog_2_method_4_code 48 = .ok (.ifCond .lt 16, 3) := by decide +kernel
theorem d_P_takeFrame_51 : decode prog_2_method_4_code 51 = .ok (.iload 5, 2) := by decide +kernel
theorem d_P_takeFrame_53 : decode prog_2_method_4_code 53 = .ok (.iload_n 3, 1) := by decide +kernel
theorem d_P_takeFrame_54 : decode prog_2_method_4_code 54 = .ok (.if_icmp .gt 10, 3) := by decide +kernel
theorem d_P_takeFrame_57 : decode prog_2_method_4_code 57 = .ok (.aload_n 1, 1) := by decide +kernel
theorem d_P_takeFrame_58 : decode prog_2_method_4_code 58 = .ok (.invokevirtual 74, 3) := by decide +kernel
theorem d_P_takeFrame_61 : decode prog_2_method_4_code 61 = .ok (.ifCond .eq 5, 3) := by decide +kernel
theorem d_P_takeFrame_64 : decode prog_2_method_4_code 64 = .ok (.iconst 0, 1) := by decide +kernel
theorem d_P_takeFrame_65 : decode prog_2_method_4_code 65 = .ok (.ireturn, 1) := by decide +kernel
theorem d_P_takeFrame_66 : decode prog_2_method_4_code 66 = .ok (.aload_n 1, 1) := by decide +kernel
theorem d_P_takeFrame_67 : decode prog_2_method_4_code 67 = .ok (.iload_n 2, 1) := by decide +kernel
theorem d_P_takeFrame_68 : decode prog_2_method_4_code 68 = .ok (.iload_n 3, 1) := by decide +kernel
theorem d_P_takeFrame_69 : decode prog_2_method_4_code 69 = .ok (.iload 4, 2) := by decide +kernel
theorem d_P_takeFrame_71 : decode prog_2_method_4_code 71 = .ok (.iload 5, 2) := by decide +kernel
theorem d_P_takeFrame_73 : decode prog_2_method_4_code 73 = .ok (.invokevirtual 77, 3) := by decide +kernel
theorem d_P_takeFrame_76 : decode prog_2_method_4_code 76 = .ok (.pop, 1) := by decide +kernel
theorem d_P_takeFrame_77 : decode prog_2_method_4_code 77 = .ok (.iconst 1, 1) := by decide +kernel
theorem d_P_takeFrame_78 : decode prog_2_method_4_code 78 = .ok (.ireturn, 1) := by decide +kernel
abbrev y_P_nextNumber : MethodName := ⟨"FrameTables$Parser", "nextNumber", "()I"⟩
abbrev m_P_nextNumber : MethodName × ByteArray × Nat × Option FieldType := (y_P_nextNumber, prog_2_method_9_code, 4, some .int)
theorem mi_P_nextNumber : .code y_P_nextNumber prog_2_method_9_code 4 (some .int) ∈ wT := wT_m 494 (by decide +kernel) rfl
theorem d_P_nextNumber_0 : decode prog_2_method_9_code 0 = .ok (.aload_n 0, 1) := by decide +kernel
theorem d_P_nextNumber_1 : decode prog_2_method_9_code 1 = .ok (.invokevirtual 44, 3) := by decide +kernel
theorem d_P_nextNumber_4 : decode prog_2_method_9_code 4 = .ok (.ifCond .eq 17, 3) := by decide +kernel
theorem d_P_nextNumber_7 : decode prog_2_method_9_code 7 = .ok (.aload_n 0, 1) := by decide +kernel
theorem d_P_nextNumber_8 : decode prog_2_method_9_code 8 = .ok (.getfield 15, 3) := by decide +kernel
theorem d_P_nextNumber_11 : decode prog_2_method_9_code 11 = .ok (.aload_n 0, 1) := by decide +kernel
theorem d_P_nextNumber_12 : decode prog_2_method_9_code 12 = .ok (.getfield 9, 3) := by decide +kernel
theorem d_P_nextNumber_15 : decode prog_2_method_9_code 15 = .ok (.isub, 1) := by decide +kernel
theorem d_P_nextNumber_16 : decode prog_2_method_9_code 16 = .ok (.bipush 6, 2) := by decide +kernel
theorem d_P_nextNumber_18 : decode prog_2_method_9_code 18 = .ok (.if_icmp .le 5, 3) := by decide +kernel
theorem d_P_nextNumber_21 : decode prog_2_method_9_code 21 = .ok (.iconst (-1), 1) := by decide +kernel
theorem d_P_nextNumber_22 : decode prog_2_method_9_code 22 = .ok (.ireturn, 1) := by decide +kernel
theorem d_P_nextNumber_23 : decode prog_2_method_9_code 23 = .ok (.iconst 0, 1) := by decide +kernel
theorem d_P_nextNumber_24 : decode prog_2_method_9_code 24 = .ok (.istore_n 1, 1) := by decide +kernel
theorem d_P_nextNumber_25 : decode prog_2_method_9_code 25 = .ok (.aload_n 0, 1) := by decide +kernel
theorem d_P_nextNumber_26 : decode prog_2_method_9_code 26 = .ok (.getfield 9, 3) := by decide +kernel
theorem d_P_nextNumber_29 : decode prog_2_method_9_code 29 = .ok (.istore_n 2, 1) := by decide +kernel
theorem d_P_nextNumber_30 : decode prog_2_method_9_code 30 = .ok (.iload_n 2, 1) := by decide +kernel
theorem d_P_nextNumber_31 : decode prog_2_method_9_code 31 = .ok (.aload_n 0, 1) := by decide +kernel
theorem d_P_nextNumber_32 : decode prog_2_method_9_code 32 = .ok (.getfield 15, 3) := by decide +kernel
theorem d_P_nextNumber_35 : decode prog_2_method_9_code 35 = .ok (.if_icmp .ge 40, 3) := by decide +kernel
theorem d_P_nextNumber_38 : decode prog_2_method_9_code 38 = .ok (.aload_n 0, 1) := by decide +kernel
theorem d_P_nextNumber_39 : decode prog_2_method_9_code 39 = .ok (.getfield 21, 3) := by decide +kernel
theorem d_P_nextNumber_42 : decode prog_2_method_9_code 42 = .ok (.iload_n 2, 1) := by decide +kernel
theorem d_P_nextNumber_43 : decode prog_2_method_9_code 43 = .ok (.invokevirtual 36, 3) := by decide +kernel
theorem d_P_nextNumber_46 : decode prog_2_method_9_code 46 = .ok (.bipush 48, 2) := by decide +kernel
theorem d_P_nextNumber_48 : decode prog_2_method_9_code 48 = .ok (.isub, 1) := by decide +kernel
theorem d_P_nextNumber_49 : decode prog_2_method_9_code 49 = .ok (.istore_n 3, 1) := by decide +kernel
theorem d_P_nextNumber_50 : decode prog_2_method_9_code 50 = .ok (.iload_n 3, 1) := by decide +kernel
theorem d_P_nextNumber_51 : decode prog_2_method_9_code 51 = .ok (.ifCond .lt 9, 3) := by decide +kernel
theorem d_P_nextNumber_54 : decode prog_2_method_9_code 54 = .ok (.iload_n 3, 1) := by decide +kernel
theorem d_P_nextNumber_55 : decode prog_2_method_9_code 55 = .ok (.bipush 9, 2) := by decide +kernel
theorem d_P_nextNumber_57 : decode prog_2_method_9_code 57 = .ok (.if_icmp .le 5, 3) := by decide +kernel
theorem d_P_nextNumber_60 : decode prog_2_method_9_code 60 = .ok (.iconst (-1), 1) := by decide +kernel
theorem d_P_nextNumber_61 : decode prog_2_method_9_code 61 = .ok (.ireturn, 1) := by decide +kernel
theorem d_P_nextNumber_62 : decode prog_2_method_9_code 62 = .ok (.iload_n 1, 1) := by decide +kernel
theorem d_P_nextNumber_63 : decode prog_2_method_9_code 63 = .ok (.bipush 10, 2) := by decide +kernel
theorem d_P_nextNumber_65 : decode prog_2_method_9_code 65 = .ok (.imul, 1) := by decide +kernel
theorem d_P_nextNumber_66 : decode prog_2_method_9_code 66 = .ok (.iload_n 3, 1) := by decide +kernel
theorem d_P_nextNumber_67 : decode prog_2_method_9_code 67 = .ok (.iadd, 1) := by decide +kernel
theorem d_P_nextNumber_68 : decode prog_2_method_9_code 68 = .ok (.istore_n 1, 1) := by decide +kernel
theorem d_P_nextNumber_69 : decode prog_2_method_9_code 69 = .ok (.iinc 2 1, 3) := by decide +kernel
theorem d_P_nextNumber_72 : decode prog_2_method_9_code 72 = .ok (.goto (-42), 3) := by decide +kernel
theorem d_P_nextNumber_75 : decode prog_2_method_9_code 75 = .ok (.iload_n 1, 1) := by decide +kernel
theorem d_P_nextNumber_76 : decode prog_2_method_9_code 76 = .ok (.ireturn, 1) := by decide +kernel
abbrev y_P_takeReaders : MethodName := ⟨"FrameTables$Parser", "takeReaders", "(LFrameTables$Table;)Z"⟩
abbrev m_P_takeReaders : MethodName × ByteArray × Nat × Option FieldType := (y_P_takeReaders, prog_2_method_5_code, 6, some .boolean)
theorem mi_P_takeReaders : .code y_P_takeReaders prog_2_method_5_code 6 (some .boolean) ∈ wT := wT_m 503 (by decide +kernel) rfl
theorem d_P_takeReaders_0 : decode prog_2_method_5_code 0 = .ok (.iconst 0, 1) := by decide +kernel
theorem d_P_takeReaders_1 : decode prog_2_method_5_code 1 = .ok (.istore_n 2, 1) := by decide +kernel
theorem d_P_takeReaders_2 : decode prog_2_method_5_code 2 = .ok (.iload_n 2, 1) := by decide +kernel
theorem d_P_takeReaders_3 : decode prog_2_method_5_code 3 = .ok (.sipush 2000, 3) := by decide +kernel
theorem d_P_takeReaders_6 : decode prog_2_method_5_code 6 = .ok (.if_icmp .gt 67, 3) := by decide +kernel
theorem d_P_takeReaders_9 : decode prog_2_method_5_code 9 = .ok (.aload_n 0, 1) := by decide +kernel
theorem d_P_takeReaders_10 : decode prog_2_method_5_code 10 = .ok (.invokevirtual 44, 3) := by decide +kernel
theorem d_P_takeReaders_13 : decode prog_2_method_5_code 13 = .ok (.ifCond .ne 5, 3) := by decide +kernel
theorem d_P_takeReaders_16 : decode prog_2_method_5_code 16 = .ok (.iconst 1, 1) := by decide +kernel
theorem d_P_takeReaders_17 : decode prog_2_method_5_code 17 = .ok (.ireturn, 1) := by decide +kernel
theorem d_P_takeReaders_18 : decode prog_2_method_5_code 18 = .ok (.aload_n 0, 1) := by decide +kernel
theorem d_P_takeReaders_19 : decode prog_2_method_5_code 19 = .ok (.ldc 81, 2) := by decide +kernel
theorem d_P_takeReaders_21 : decode prog_2_method_5_code 21 = .ok (.invokevirtual 50, 3) := by decide +kernel
theorem d_P_takeReaders_24 : decode prog_2_method_5_code 24 = .ok (.istore_n 3, 1) := by decide +kernel
theorem d_P_takeReaders_25 : decode prog_2_method_5_code 25 = .ok (.aload_n 0, 1) := by decide +kernel
theorem d_P_takeReaders_26 : decode prog_2_method_5_code 26 = .ok (.invokevirtual 61, 3) := by decide +kernel
theorem d_P_takeReaders_29 : decode prog_2_method_5_code 29 = .ok (.istore 4, 2) := by decide +kernel
theorem d_P_takeReaders_31 : decode prog_2_method_5_code 31 = .ok (.aload_n 0, 1) := by decide +kernel
theorem d_P_takeReaders_32 : decode prog_2_method_5_code 32 = .ok (.invokevirtual 61, 3) := by decide +kernel
theorem d_P_takeReaders_35 : decode prog_2_method_5_code 35 = .ok (.istore 5, 2) := by decide +kernel
theorem d_P_takeReaders_37 : decode prog_2_method_5_code 37 = .ok (.iload_n 3, 1) := by decide +kernel
theorem d_P_takeReaders_38 : decode prog_2_method_5_code 38 = .ok (.ifCond .eq 15, 3) := by decide +kernel
theorem d_P_takeReaders_41 : decode prog_2_method_5_code 41 = .ok (.aload_n 0, 1) := by decide +kernel
theorem d_P_takeReaders_42 : decode prog_2_method_5_code 42 = .ok (.aload_n 1, 1) := by decide +kernel
theorem d_P_takeReaders_43 : decode prog_2_method_5_code 43 = .ok (.iload 4, 2) := by decide +kernel
theorem d_P_takeReaders_45 : decode prog_2_method_5_code 45 = .ok (.iload 5, 2) := by decide +kernel
theorem d_P_takeReaders_47 : decode prog_2_method_5_code 47 = .ok (.invokevirtual 83, 3) := by decide +kernel
theorem d_P_takeReaders_50 : decode prog_2_method_5_code 50 = .ok (.ifCond .ne 5, 3) := by decide +kernel
theorem d_P_takeReaders_53 : decode prog_2_method_5_code 53 = .ok (.iconst 0, 1) := by decide +kernel
theorem d_P_takeReaders_54 : decode prog_2_method_5_code 54 = .ok (.ireturn, 1) := by decide +kernel
theorem d_P_takeReaders_55 : decode prog_2_method_5_code 55 = .ok (.aload_n 1, 1) := by decide +kernel
theorem d_P_takeReaders_56 : decode prog_2_method_5_code 56 = .ok (.aload_n 1, 1) := by decide +kernel
theorem d_P_takeReaders_57 : decode prog_2_method_5_code 57 = .ok (.invokevirtual 87, 3) := by decide +kernel
theorem d_P_takeReaders_60 : decode prog_2_method_5_code 60 = .ok (.iload 4, 2) := by decide +kernel
theorem d_P_takeReaders_62 : decode prog_2_method_5_code 62 = .ok (.iload 5, 2) := by decide +kernel
theorem d_P_takeReaders_64 : decode prog_2_method_5_code 64 = .ok (.invokevirtual 90, 3) := by decide +kernel
theorem d_P_takeReaders_67 : decode prog_2_method_5_code 67 = .ok (.iinc 2 1, 3) := by decide +kernel
theorem d_P_takeReaders_70 : decode prog_2_method_5_code 70 = .ok (.goto (-68), 3) := by decide +kernel
theorem d_P_takeReaders_73 : decode prog_2_method_5_code 73 = .ok (.iconst 0, 1) := by decide +kernel
theorem d_P_takeReaders_74 : decode prog_2_method_5_code 74 = .ok (.ireturn, 1) := by decide +kernel
abbrev y_P_mayRead : MethodName := ⟨"FrameTables$Parser", "mayRead", "(LFrameTables$Table;II)Z"⟩
abbrev m_P_mayRead : MethodName × ByteArray × Nat × Option FieldType := (y_P_mayRead, prog_2_method_6_code, 4, some .boolean)
theorem mi_P_mayRead : .code y_P_mayRead prog_2_method_6_code 4 (some .boolean) ∈ wT := wT_m 508 (by decide +kernel) rfl
theorem d_P_mayRead_0 : decode prog_2_method_6_code 0 = .ok (.iload_n 2, 1) := by decide +kernel
theorem d_P_mayRead_1 : decode prog_2_method_6_code 1 = .ok (.invokestatic 64, 3) := by decide +kernel
theorem d_P_mayRead_4 : decode prog_2_method_6_code 4 = .ok (.ifCond .eq 31, 3) := by decide +kernel
theorem d_P_mayRead_7 : decode prog_2_method_6_code 7 = .ok (.iload_n 2, 1) := by decide +kernel
theorem d_P_mayRead_8 : decode prog_2_method_6_code 8 = .ok (.aload_n 1, 1) := by decide +kernel
theorem d_P_mayRead_9 : decode prog_2_method_6_code 9 = .ok (.aload_n 1, 1) := by decide +kernel
theorem d_P_mayRead_10 : decode prog_2_method_6_code 10 = .ok (.invokevirtual 87, 3) := by decide +kernel
theorem d_P_mayRead_13 : decode prog_2_method_6_code 13 = .ok (.invokevirtual 94, 3) := by decide +kernel
theorem d_P_mayRead_16 : decode prog_2_method_6_code 16 = .ok (.if_icmp .eq 19, 3) := by decide +kernel
theorem d_P_mayRead_19 : decode prog_2_method_6_code 19 = .ok (.iload_n 3, 1) := by decide +kernel
theorem d_P_mayRead_20 : decode prog_2_method_6_code 20 = .ok (.iconst 1, 1) := by decide +kernel
theorem d_P_mayRead_21 : decode prog_2_method_6_code 21 = .ok (.if_icmp .lt 14, 3) := by decide +kernel
theorem d_P_mayRead_24 : decode prog_2_method_6_code 24 = .ok (.iload_n 3, 1) := by decide +kernel
theorem d_P_mayRead_25 : decode prog_2_method_6_code 25 = .ok (.sipush 10000, 3) := by decide +kernel
theorem d_P_mayRead_28 : decode prog_2_method_6_code 28 = .ok (.if_icmp .gt 7, 3) := by decide +kernel
theorem d_P_mayRead_31 : decode prog_2_method_6_code 31 = .ok (.iconst 1, 1) := by decide +kernel
theorem d_P_mayRead_32 : decode prog_2_method_6_code 32 = .ok (.goto 4, 3) := by decide +kernel
theorem d_P_mayRead_35 : decode prog_2_method_6_code 35 = .ok (.iconst 0, 1) := by decide +kernel
theorem d_P_mayRead_36 : decode prog_2_method_6_code 36 = .ok (.ireturn, 1) := by decide +kernel
abbrev y_F_print : MethodName := ⟨"FrameTables", "print", "()I"⟩
abbrev m_F_print : MethodName × ByteArray × Nat × Option FieldType := (y_F_print, prog_1_method_13_code, 2, some .int)
theorem mi_F_print : .code y_F_print prog_1_method_13_code 2 (some .int) ∈ wT := wT_m 520 (by decide +kernel) rfl
theorem d_F_print_0 : decode prog_1_method_13_code 0 = .ok (.aload_n 0, 1) := by decide +kernel
theorem d_F_print_1 : decode prog_1_method_13_code 1 = .ok (.getfield 29, 3) := by decide +kernel
theorem d_F_print_4 : decode prog_1_method_13_code 4 = .ok (.invokevirtual 142, 3) := by decide +kernel
theorem d_F_print_7 : decode prog_1_method_13_code 7 = .ok (.iconst 1, 1) := by decide +kernel
theorem d_F_print_8 : decode prog_1_method_13_code 8 = .ok (.istore_n 1, 1) := by decide +kernel
theorem d_F_print_9 : decode prog_1_method_13_code 9 = .ok (.iload_n 1, 1) := by decide +kernel
theorem d_F_print_10 : decode prog_1_method_13_code 10 = .ok (.aload_n 0, 1) := by decide +kernel
theorem d_F_print_11 : decode prog_1_method_13_code 11 = .ok (.getfield 10, 3) := by decide +kernel
theorem d_F_print_14 : decode prog_1_method_13_code 14 = .ok (.invokevirtual 127, 3) := by decide +kernel
theorem d_F_print_17 : decode prog_1_method_13_code 17 = .ok (.if_icmp .gt 14, 3) := by decide +kernel
theorem d_F_print_20 : decode prog_1_method_13_code 20 = .ok (.aload_n 0, 1) := by decide +kernel
theorem d_F_print_21 : decode prog_1_method_13_code 21 = .ok (.iload_n 1, 1) := by decide +kernel
theorem d_F_print_22 : decode prog_1_method_13_code 22 = .ok (.invokevirtual 145, 3) := by decide +kernel
theorem d_F_print_25 : decode prog_1_method_13_code 25 = .ok (.iinc 1 1, 3) := by decide +kernel
theorem d_F_print_28 : decode prog_1_method_13_code 28 = .ok (.goto (-19), 3) := by decide +kernel
theorem d_F_print_31 : decode prog_1_method_13_code 31 = .ok (.aload_n 0, 1) := by decide +kernel
theorem d_F_print_32 : decode prog_1_method_13_code 32 = .ok (.getfield 29, 3) := by decide +kernel
theorem d_F_print_35 : decode prog_1_method_13_code 35 = .ok (.invokevirtual 149, 3) := by decide +kernel
theorem d_F_print_38 : decode prog_1_method_13_code 38 = .ok (.ifCond .eq 13, 3) := by decide +kernel
theorem d_F_print_41 : decode prog_1_method_13_code 41 = .ok (.aload_n 0, 1) := by decide +kernel
theorem d_F_print_42 : decode prog_1_method_13_code 42 = .ok (.getfield 29, 3) := by decide +kernel
theorem d_F_print_45 : decode prog_1_method_13_code 45 = .ok (.invokevirtual 142, 3) := by decide +kernel
theorem d_F_print_48 : decode prog_1_method_13_code 48 = .ok (.bipush (-4), 2) := by decide +kernel
theorem d_F_print_50 : decode prog_1_method_13_code 50 = .ok (.ireturn, 1) := by decide +kernel
theorem d_F_print_51 : decode prog_1_method_13_code 51 = .ok (.aload_n 0, 1) := by decide +kernel
theorem d_F_print_52 : decode prog_1_method_13_code 52 = .ok (.getfield 29, 3) := by decide +kernel
theorem d_F_print_55 : decode prog_1_method_13_code 55 = .ok (.invokevirtual 152, 3) := by decide +kernel
theorem d_F_print_58 : decode prog_1_method_13_code 58 = .ok (.ireturn, 1) := by decide +kernel
abbrev y_F_writeLine : MethodName := ⟨"FrameTables", "writeLine", "(I)V"⟩
abbrev m_F_writeLine : MethodName × ByteArray × Nat × Option FieldType := (y_F_writeLine, prog_1_method_22_code, 3, none)
theorem mi_F_writeLine : .code y_F_writeLine prog_1_method_22_code 3 none ∈ wT := wT_m 524 (by decide +kernel) rfl
theorem d_F_writeLine_0 : decode prog_1_method_22_code 0 = .ok (.aload_n 0, 1) := by decide +kernel
theorem d_F_writeLine_1 : decode prog_1_method_22_code 1 = .ok (.getfield 29, 3) := by decide +kernel
theorem d_F_writeLine_4 : decode prog_1_method_22_code 4 = .ok (.ldc 177, 2) := by decide +kernel
theorem d_F_writeLine_6 : decode prog_1_method_22_code 6 = .ok (.invokevirtual 179, 3) := by decide +kernel
theorem d_F_writeLine_9 : decode prog_1_method_22_code 9 = .ok (.aload_n 0, 1) := by decide +kernel
theorem d_F_writeLine_10 : decode prog_1_method_22_code 10 = .ok (.getfield 29, 3) := by decide +kernel
theorem d_F_writeLine_13 : decode prog_1_method_22_code 13 = .ok (.aload_n 0, 1) := by decide +kernel
theorem d_F_writeLine_14 : decode prog_1_method_22_code 14 = .ok (.getfield 10, 3) := by decide +kernel
theorem d_F_writeLine_17 : decode prog_1_method_22_code 17 = .ok (.iload_n 1, 1) := by decide +kernel
theorem d_F_writeLine_18 : decode prog_1_method_22_code 18 = .ok (.invokevirtual 74, 3) := by decide +kernel
theorem d_F_writeLine_21 : decode prog_1_method_22_code 21 = .ok (.invokevirtual 183, 3) := by decide +kernel
theorem d_F_writeLine_24 : decode prog_1_method_22_code 24 = .ok (.aload_n 0, 1) := by decide +kernel
theorem d_F_writeLine_25 : decode prog_1_method_22_code 25 = .ok (.getfield 29, 3) := by decide +kernel
theorem d_F_writeLine_28 : decode prog_1_method_22_code 28 = .ok (.aload_n 0, 1) := by decide +kernel
theorem d_F_writeLine_29 : decode prog_1_method_22_code 29 = .ok (.getfield 10, 3) := by decide +kernel
theorem d_F_writeLine_32 : decode prog_1_method_22_code 32 = .ok (.iload_n 1, 1) := by decide +kernel
theorem d_F_writeLine_33 : decode prog_1_method_22_code 33 = .ok (.invokevirtual 120, 3) := by decide +kernel
theorem d_F_writeLine_36 : decode prog_1_method_22_code 36 = .ok (.invokevirtual 183, 3) := by decide +kernel
theorem d_F_writeLine_39 : decode prog_1_method_22_code 39 = .ok (.aload_n 0, 1) := by decide +kernel
theorem d_F_writeLine_40 : decode prog_1_method_22_code 40 = .ok (.getfield 29, 3) := by decide +kernel
theorem d_F_writeLine_43 : decode prog_1_method_22_code 43 = .ok (.aload_n 0, 1) := by decide +kernel
theorem d_F_writeLine_44 : decode prog_1_method_22_code 44 = .ok (.getfield 10, 3) := by decide +kernel
theorem d_F_writeLine_47 : decode prog_1_method_22_code 47 = .ok (.iload_n 1, 1) := by decide +kernel
theorem d_F_writeLine_48 : decode prog_1_method_22_code 48 = .ok (.invokevirtual 186, 3) := by decide +kernel
theorem d_F_writeLine_51 : decode prog_1_method_22_code 51 = .ok (.invokevirtual 183, 3) := by decide +kernel
theorem d_F_writeLine_54 : decode prog_1_method_22_code 54 = .ok (.aload_n 0, 1) := by decide +kernel
theorem d_F_writeLine_55 : decode prog_1_method_22_code 55 = .ok (.getfield 29, 3) := by decide +kernel
theorem d_F_writeLine_58 : decode prog_1_method_22_code 58 = .ok (.aload_n 0, 1) := by decide +kernel
theorem d_F_writeLine_59 : decode prog_1_method_22_code 59 = .ok (.getfield 10, 3) := by decide +kernel
theorem d_F_writeLine_62 : decode prog_1_method_22_code 62 = .ok (.iload_n 1, 1) := by decide +kernel
theorem d_F_writeLine_63 : decode prog_1_method_22_code 63 = .ok (.invokevirtual 189, 3) := by decide +kernel
theorem d_F_writeLine_66 : decode prog_1_method_22_code 66 = .ok (.invokevirtual 183, 3) := by decide +kernel
theorem d_F_writeLine_69 : decode prog_1_method_22_code 69 = .ok (.iconst 1, 1) := by decide +kernel
theorem d_F_writeLine_70 : decode prog_1_method_22_code 70 = .ok (.istore_n 2, 1) := by decide +kernel
theorem d_F_writeLine_71 : decode prog_1_method_22_code 71 = .ok (.iload_n 2, 1) := by decide +kernel
theorem d_F_writeLine_72 : decode prog_1_method_22_code 72 = .ok (.bipush 20, 2) := by decide +kernel
theorem d_F_writeLine_74 : decode prog_1_method_22_code 74 = .ok (.if_icmp .gt 63, 3) := by decide +kernel
theorem d_F_writeLine_77 : decode prog_1_method_22_code 77 = .ok (.aload_n 0, 1) := by decide +kernel
theorem d_F_writeLine_78 : decode prog_1_method_22_code 78 = .ok (.getfield 10, 3) := by decide +kernel
theorem d_F_writeLine_81 : decode prog_1_method_22_code 81 = .ok (.iload_n 1, 1) := by decide +kernel
theorem d_F_writeLine_82 : decode prog_1_method_22_code 82 = .ok (.iload_n 2, 1) := by decide +kernel
theorem d_F_writeLine_83 : decode prog_1_method_22_code 83 = .ok (.invokevirtual 192, 3) := by decide +kernel
theorem d_F_writeLine_86 : decode prog_1_method_22_code 86 = .ok (.ifCond .eq 45, 3) := by decide +kernel
theorem d_F_writeLine_89 : decode prog_1_method_22_code 89 = .ok (.aload_n 0, 1) := by decide +kernel
theorem d_F_writeLine_90 : decode prog_1_method_22_code 90 = .ok (.getfield 29, 3) := by decide +kernel
theorem d_F_writeLine_93 : decode prog_1_method_22_code 93 = .ok (.bipush 32, 2) := by decide +kernel
theorem d_F_writeLine_95 : decode prog_1_method_22_code 95 = .ok (.invokevirtual 135, 3) := by decide +kernel
theorem d_F_writeLine_98 : decode prog_1_method_22_code 98 = .ok (.aload_n 0, 1) := by decide +kernel
theorem d_F_writeLine_99 : decode prog_1_method_22_code 99 = .ok (.getfield 29, 3) := by decide +kernel
theorem d_F_writeLine_102 : decode prog_1_method_22_code 102 = .ok (.ldc 195, 2) := by decide +kernel
theorem d_F_writeLine_104 : decode prog_1_method_22_code 104 = .ok (.invokevirtual 179, 3) := by decide +kernel
theorem d_F_writeLine_107 : decode prog_1_method_22_code 107 = .ok (.aload_n 0, 1) := by decide +kernel
theorem d_F_writeLine_108 : decode prog_1_method_22_code 108 = .ok (.getfield 29, 3) := by decide +kernel
theorem d_F_writeLine_111 : decode prog_1_method_22_code 111 = .ok (.iload_n 2, 1) := by decide +kernel
theorem d_F_writeLine_112 : decode prog_1_method_22_code 112 = .ok (.invokevirtual 183, 3) := by decide +kernel
theorem d_F_writeLine_115 : decode prog_1_method_22_code 115 = .ok (.aload_n 0, 1) := by decide +kernel
theorem d_F_writeLine_116 : decode prog_1_method_22_code 116 = .ok (.getfield 29, 3) := by decide +kernel
theorem d_F_writeLine_119 : decode prog_1_method_22_code 119 = .ok (.aload_n 0, 1) := by decide +kernel
theorem d_F_writeLine_120 : decode prog_1_method_22_code 120 = .ok (.getfield 10, 3) := by decide +kernel
theorem d_F_writeLine_123 : decode prog_1_method_22_code 123 = .ok (.iload_n 1, 1) := by decide +kernel
theorem d_F_writeLine_124 : decode prog_1_method_22_code 124 = .ok (.iload_n 2, 1) := by decide +kernel
theorem d_F_writeLine_125 : decode prog_1_method_22_code 125 = .ok (.invokevirtual 196, 3) := by decide +kernel
theorem d_F_writeLine_128 : decode prog_1_method_22_code 128 = .ok (.invokevirtual 183, 3) := by decide +kernel
theorem d_F_writeLine_131 : decode prog_1_method_22_code 131 = .ok (.iinc 2 1, 3) := by decide +kernel
theorem d_F_writeLine_134 : decode prog_1_method_22_code 134 = .ok (.goto (-63), 3) := by decide +kernel
theorem d_F_writeLine_137 : decode prog_1_method_22_code 137 = .ok (.aload_n 0, 1) := by decide +kernel
theorem d_F_writeLine_138 : decode prog_1_method_22_code 138 = .ok (.getfield 29, 3) := by decide +kernel
theorem d_F_writeLine_141 : decode prog_1_method_22_code 141 = .ok (.bipush 10, 2) := by decide +kernel
theorem d_F_writeLine_143 : decode prog_1_method_22_code 143 = .ok (.invokevirtual 135, 3) := by decide +kernel
theorem d_F_writeLine_146 : decode prog_1_method_22_code 146 = .ok (.return_, 1) := by decide +kernel
abbrev y_F_letter : MethodName := ⟨"FrameTables", "letter", "(I)I"⟩
abbrev m_F_letter : MethodName × ByteArray × Nat × Option FieldType := (y_F_letter, prog_1_method_14_code, 3, some .int)
theorem mi_F_letter : .code y_F_letter prog_1_method_14_code 3 (some .int) ∈ wT := wT_m 556 (by decide +kernel) rfl
theorem d_F_letter_0 : decode prog_1_method_14_code 0 = .ok (.aload_n 0, 1) := by decide +kernel
theorem d_F_letter_1 : decode prog_1_method_14_code 1 = .ok (.getfield 29, 3) := by decide +kernel
theorem d_F_letter_4 : decode prog_1_method_14_code 4 = .ok (.iload_n 1, 1) := by decide +kernel
theorem d_F_letter_5 : decode prog_1_method_14_code 5 = .ok (.invokevirtual 155, 3) := by decide +kernel
theorem d_F_letter_8 : decode prog_1_method_14_code 8 = .ok (.istore_n 2, 1) := by decide +kernel
theorem d_F_letter_9 : decode prog_1_method_14_code 9 = .ok (.iload_n 2, 1) := by decide +kernel
theorem d_F_letter_10 : decode prog_1_method_14_code 10 = .ok (.iconst (-1), 1) := by decide +kernel
theorem d_F_letter_11 : decode prog_1_method_14_code 11 = .ok (.if_icmp .ne 7, 3) := by decide +kernel
theorem d_F_letter_14 : decode prog_1_method_14_code 14 = .ok (.iconst (-1), 1) := by decide +kernel
theorem d_F_letter_15 : decode prog_1_method_14_code 15 = .ok (.goto 4, 3) := by decide +kernel
theorem d_F_letter_18 : decode prog_1_method_14_code 18 = .ok (.iload_n 2, 1) := by decide +kernel
theorem d_F_letter_19 : decode prog_1_method_14_code 19 = .ok (.ireturn, 1) := by decide +kernel
abbrev y_F_touched : MethodName := ⟨"FrameTables", "touched", "(II)I"⟩
abbrev m_F_touched : MethodName × ByteArray × Nat × Option FieldType := (y_F_touched, prog_1_method_15_code, 5, some .int)
theorem mi_F_touched : .code y_F_touched prog_1_method_15_code 5 (some .int) ∈ wT := wT_m 561 (by decide +kernel) rfl
theorem d_F_touched_0 : decode prog_1_method_15_code 0 = .ok (.aload_n 0, 1) := by decide +kernel
theorem d_F_touched_1 : decode prog_1_method_15_code 1 = .ok (.getfield 10, 3) := by decide +kernel
theorem d_F_touched_4 : decode prog_1_method_15_code 4 = .ok (.iload_n 1, 1) := by decide +kernel
theorem d_F_touched_5 : decode prog_1_method_15_code 5 = .ok (.invokevirtual 71, 3) := by decide +kernel
theorem d_F_touched_8 : decode prog_1_method_15_code 8 = .ok (.ifCond .ne 5, 3) := by decide +kernel
theorem d_F_touched_11 : decode prog_1_method_15_code 11 = .ok (.iconst (-1), 1) := by decide +kernel
theorem d_F_touched_12 : decode prog_1_method_15_code 12 = .ok (.ireturn, 1) := by decide +kernel
theorem d_F_touched_13 : decode prog_1_method_15_code 13 = .ok (.iconst 0, 1) := by decide +kernel
theorem d_F_touched_14 : decode prog_1_method_15_code 14 = .ok (.istore_n 3, 1) := by decide +kernel
theorem d_F_touched_15 : decode prog_1_method_15_code 15 = .ok (.iconst 1, 1) := by decide +kernel
theorem d_F_touched_16 : decode prog_1_method_15_code 16 = .ok (.istore 4, 2) := by decide +kernel
theorem d_F_touched_18 : decode prog_1_method_15_code 18 = .ok (.iload 4, 2) := by decide +kernel
theorem d_F_touched_20 : decode prog_1_method_15_code 20 = .ok (.bipush 20, 2) := by decide +kernel
theorem d_F_touched_22 : decode prog_1_method_15_code 22 = .ok (.if_icmp .gt 33, 3) := by decide +kernel
theorem d_F_touched_25 : decode prog_1_method_15_code 25 = .ok (.aload_n 0, 1) := by decide +kernel
theorem d_F_touched_26 : decode prog_1_method_15_code 26 = .ok (.getfield 10, 3) := by decide +kernel
theorem d_F_touched_29 : decode prog_1_method_15_code 29 = .ok (.iload_n 1, 1) := by decide +kernel
theorem d_F_touched_30 : decode prog_1_method_15_code 30 = .ok (.iload 4, 2) := by decide +kernel
theorem d_F_touched_32 : decode prog_1_method_15_code 32 = .ok (.invokevirtual 158, 3) := by decide +kernel
theorem d_F_touched_35 : decode prog_1_method_15_code 35 = .ok (.ifCond .eq 14, 3) := by decide +kernel
theorem d_F_touched_38 : decode prog_1_method_15_code 38 = .ok (.iload_n 3, 1) := by decide +kernel
theorem d_F_touched_39 : decode prog_1_method_15_code 39 = .ok (.iload_n 2, 1) := by decide +kernel
theorem d_F_touched_40 : decode prog_1_method_15_code 40 = .ok (.if_icmp .ne 6, 3) := by decide +kernel
theorem d_F_touched_43 : decode prog_1_method_15_code 43 = .ok (.iload 4, 2) := by decide +kernel
theorem d_F_touched_45 : decode prog_1_method_15_code 45 = .ok (.ireturn, 1) := by decide +kernel
theorem d_F_touched_46 : decode prog_1_method_15_code 46 = .ok (.iinc 3 1, 3) := by decide +kernel
theorem d_F_touched_49 : decode prog_1_method_15_code 49 = .ok (.iinc 4 1, 3) := by decide +kernel
theorem d_F_touched_52 : decode prog_1_method_15_code 52 = .ok (.goto (-34), 3) := by decide +kernel
theorem d_F_touched_55 : decode prog_1_method_15_code 55 = .ok (.iconst 0, 1) := by decide +kernel
theorem d_F_touched_56 : decode prog_1_method_15_code 56 = .ok (.ireturn, 1) := by decide +kernel
end
section
abbrev y_Q_init : MethodName := ⟨"FrameTables$Search", "<init>", "()V"⟩
abbrev m_Q_init : MethodName × ByteArray × Nat × Option FieldType := (y_Q_init, prog_3_method_1_code, 1, none)
theorem mi_Q_init : .code y_Q_init prog_3_method_1_code 1 none ∈ wT := wT_m 143 (by decide +kernel) rfl
theorem d_Q_init_0 : decode prog_3_method_1_code 0 = .ok (.aload_n 0, 1) := by decide +kernel
theorem d_Q_init_1 : decode prog_3_method_1_code 1 = .ok (.invokespecial 3, 3) := by decide +kernel
theorem d_Q_init_4 : decode prog_3_method_1_code 4 = .ok (.aload_n 0, 1) := by decide +kernel
theorem d_Q_init_5 : decode prog_3_method_1_code 5 = .ok (.bipush 40, 2) := by decide +kernel
theorem d_Q_init_7 : decode prog_3_method_1_code 7 = .ok (.newarray .int, 2) := by decide +kernel
theorem d_Q_init_9 : decode prog_3_method_1_code 9 = .ok (.putfield 9, 3) := by decide +kernel
theorem d_Q_init_12 : decode prog_3_method_1_code 12 = .ok (.aload_n 0, 1) := by decide +kernel
theorem d_Q_init_13 : decode prog_3_method_1_code 13 = .ok (.bipush 40, 2) := by decide +kernel
theorem d_Q_init_15 : decode prog_3_method_1_code 15 = .ok (.newarray .int, 2) := by decide +kernel
theorem d_Q_init_17 : decode prog_3_method_1_code 17 = .ok (.putfield 15, 3) := by decide +kernel
theorem d_Q_init_20 : decode prog_3_method_1_code 20 = .ok (.aload_n 0, 1) := by decide +kernel
theorem d_Q_init_21 : decode prog_3_method_1_code 21 = .ok (.bipush 40, 2) := by decide +kernel
theorem d_Q_init_23 : decode prog_3_method_1_code 23 = .ok (.newarray .int, 2) := by decide +kernel
theorem d_Q_init_25 : decode prog_3_method_1_code 25 = .ok (.putfield 18, 3) := by decide +kernel
theorem d_Q_init_28 : decode prog_3_method_1_code 28 = .ok (.aload_n 0, 1) := by decide +kernel
theorem d_Q_init_29 : decode prog_3_method_1_code 29 = .ok (.bipush 40, 2) := by decide +kernel
theorem d_Q_init_31 : decode prog_3_method_1_code 31 = .ok (.newarray .int, 2) := by decide +kernel
theorem d_Q_init_33 : decode prog_3_method_1_code 33 = .ok (.putfield 21, 3) := by decide +kernel
theorem d_Q_init_36 : decode prog_3_method_1_code 36 = .ok (.aload_n 0, 1) := by decide +kernel
theorem d_Q_init_37 : decode prog_3_method_1_code 37 = .ok (.bipush 40, 2) := by decide +kernel
theorem d_Q_init_39 : decode prog_3_method_1_code 39 = .ok (.newarray .int, 2) := by decide +kernel
theorem d_Q_init_41 : decode prog_3_method_1_code 41 = .ok (.putfield 24, 3) := by decide +kernel
theorem d_Q_init_44 : decode prog_3_method_1_code 44 = .ok (.aload_n 0, 1) := by decide +kernel
theorem d_Q_init_45 : decode prog_3_method_1_code 45 = .ok (.sipush 420, 3) := by decide +kernel
theorem d_Q_init_48 : decode prog_3_method_1_code 48 = .ok (.newarray .int, 2) := by decide +kernel
theorem d_Q_init_50 : decode prog_3_method_1_code 50 = .ok (.putfield 27, 3) := by decide +kernel
theorem d_Q_init_53 : decode prog_3_method_1_code 53 = .ok (.aload_n 0, 1) := by decide +kernel
theorem d_Q_init_54 : decode prog_3_method_1_code 54 = .ok (.iconst 0, 1) := by decide +kernel
theorem d_Q_init_55 : decode prog_3_method_1_code 55 = .ok (.putfield 30, 3) := by decide +kernel
theorem d_Q_init_58 : decode prog_3_method_1_code 58 = .ok (.aload_n 0, 1) := by decide +kernel
theorem d_Q_init_59 : decode prog_3_method_1_code 59 = .ok (.iconst (-1), 1) := by decide +kernel
theorem d_Q_init_60 : decode prog_3_method_1_code 60 = .ok (.putfield 34, 3) := by decide +kernel
theorem d_Q_init_63 : decode prog_3_method_1_code 63 = .ok (.aload_n 0, 1) := by decide +kernel
theorem d_Q_init_64 : decode prog_3_method_1_code 64 = .ok (.iconst 0, 1) := by decide +kernel
theorem d_Q_init_65 : decode prog_3_method_1_code 65 = .ok (.putfield 37, 3) := by decide +kernel
theorem d_Q_init_68 : decode prog_3_method_1_code 68 = .ok (.return_, 1) := by decide +kernel
abbrev y_Q_begin : MethodName := ⟨"FrameTables$Search", "begin", "(LFrameTables$Table;)V"⟩
abbrev m_Q_begin : MethodName × ByteArray × Nat × Option FieldType := (y_Q_begin, prog_3_method_2_code, 2, none)
theorem mi_Q_begin : .code y_Q_begin prog_3_method_2_code 2 none ∈ wT := wT_m 294 (by decide +kernel) rfl
theorem d_Q_begin_0 : decode prog_3_method_2_code 0 = .ok (.aload_n 0, 1) := by decide +kernel
theorem d_Q_begin_1 : decode prog_3_method_2_code 1 = .ok (.aload_n 1, 1) := by decide +kernel
theorem d_Q_begin_2 : decode prog_3_method_2_code 2 = .ok (.invokevirtual 40, 3) := by decide +kernel
theorem d_Q_begin_5 : decode prog_3_method_2_code 5 = .ok (.aload_n 0, 1) := by decide +kernel
theorem d_Q_begin_6 : decode prog_3_method_2_code 6 = .ok (.bipush 41, 2) := by decide +kernel
theorem d_Q_begin_8 : decode prog_3_method_2_code 8 = .ok (.putfield 37, 3) := by decide +kernel
theorem d_Q_begin_11 : decode prog_3_method_2_code 11 = .ok (.aload_n 0, 1) := by decide +kernel
theorem d_Q_begin_12 : decode prog_3_method_2_code 12 = .ok (.iconst (-1), 1) := by decide +kernel
theorem d_Q_begin_13 : decode prog_3_method_2_code 13 = .ok (.putfield 34, 3) := by decide +kernel
theorem d_Q_begin_16 : decode prog_3_method_2_code 16 = .ok (.aload_n 0, 1) := by decide +kernel
theorem d_Q_begin_17 : decode prog_3_method_2_code 17 = .ok (.getfield 30, 3) := by decide +kernel
theorem d_Q_begin_20 : decode prog_3_method_2_code 20 = .ok (.ifCond .le 9, 3) := by decide +kernel
theorem d_Q_begin_23 : decode prog_3_method_2_code 23 = .ok (.aload_n 0, 1) := by decide +kernel
theorem d_Q_begin_24 : decode prog_3_method_2_code 24 = .ok (.iconst 0, 1) := by decide +kernel
theorem d_Q_begin_25 : decode prog_3_method_2_code 25 = .ok (.iconst 0, 1) := by decide +kernel
theorem d_Q_begin_26 : decode prog_3_method_2_code 26 = .ok (.invokevirtual 44, 3) := by decide +kernel
theorem d_Q_begin_29 : decode prog_3_method_2_code 29 = .ok (.return_, 1) := by decide +kernel
abbrev y_Q_lay : MethodName := ⟨"FrameTables$Search", "lay", "(LFrameTables$Table;)V"⟩
abbrev m_Q_lay : MethodName × ByteArray × Nat × Option FieldType := (y_Q_lay, prog_3_method_7_code, 4, none)
theorem mi_Q_lay : .code y_Q_lay prog_3_method_7_code 4 none ∈ wT := wT_m 298 (by decide +kernel) rfl
theorem d_Q_lay_0 : decode prog_3_method_7_code 0 = .ok (.iconst 0, 1) := by decide +kernel
theorem d_Q_lay_1 : decode prog_3_method_7_code 1 = .ok (.istore_n 2, 1) := by decide +kernel
theorem d_Q_lay_2 : decode prog_3_method_7_code 2 = .ok (.iload_n 2, 1) := by decide +kernel
theorem d_Q_lay_3 : decode prog_3_method_7_code 3 = .ok (.sipush 420, 3) := by decide +kernel
theorem d_Q_lay_6 : decode prog_3_method_7_code 6 = .ok (.if_icmp .ge 16, 3) := by decide +kernel
theorem d_Q_lay_9 : decode prog_3_method_7_code 9 = .ok (.aload_n 0, 1) := by decide +kernel
theorem d_Q_lay_10 : decode prog_3_method_7_code 10 = .ok (.getfield 27, 3) := by decide +kernel
theorem d_Q_lay_13 : decode prog_3_method_7_code 13 = .ok (.iload_n 2, 1) := by decide +kernel
theorem d_Q_lay_14 : decode prog_3_method_7_code 14 = .ok (.iconst 0, 1) := by decide +kernel
theorem d_Q_lay_15 : decode prog_3_method_7_code 15 = .ok (.iastore, 1) := by decide +kernel
theorem d_Q_lay_16 : decode prog_3_method_7_code 16 = .ok (.iinc 2 1, 3) := by decide +kernel
theorem d_Q_lay_19 : decode prog_3_method_7_code 19 = .ok (.goto (-17), 3) := by decide +kernel
theorem d_Q_lay_22 : decode prog_3_method_7_code 22 = .ok (.aload_n 0, 1) := by decide +kernel
theorem d_Q_lay_23 : decode prog_3_method_7_code 23 = .ok (.iconst 0, 1) := by decide +kernel
theorem d_Q_lay_24 : decode prog_3_method_7_code 24 = .ok (.putfield 30, 3) := by decide +kernel
theorem d_Q_lay_27 : decode prog_3_method_7_code 27 = .ok (.iconst 1, 1) := by decide +kernel
theorem d_Q_lay_28 : decode prog_3_method_7_code 28 = .ok (.istore_n 2, 1) := by decide +kernel
theorem d_Q_lay_29 : decode prog_3_method_7_code 29 = .ok (.iload_n 2, 1) := by decide +kernel
theorem d_Q_lay_30 : decode prog_3_method_7_code 30 = .ok (.aload_n 1, 1) := by decide +kernel
theorem d_Q_lay_31 : decode prog_3_method_7_code 31 = .ok (.invokevirtual 80, 3) := by decide +kernel
theorem d_Q_lay_34 : decode prog_3_method_7_code 34 = .ok (.if_icmp .gt 66, 3) := by decide +kernel
theorem d_Q_lay_37 : decode prog_3_method_7_code 37 = .ok (.aload_n 0, 1) := by decide +kernel
theorem d_Q_lay_38 : decode prog_3_method_7_code 38 = .ok (.getfield 30, 3) := by decide +kernel
theorem d_Q_lay_41 : decode prog_3_method_7_code 41 = .ok (.bipush 40, 2) := by decide +kernel
theorem d_Q_lay_43 : decode prog_3_method_7_code 43 = .ok (.if_icmp .ge 57, 3) := by decide +kernel
theorem d_Q_lay_46 : decode prog_3_method_7_code 46 = .ok (.aload_n 1, 1) := by decide +kernel
theorem d_Q_lay_47 : decode prog_3_method_7_code 47 = .ok (.iload_n 2, 1) := by decide +kernel
theorem d_Q_lay_48 : decode prog_3_method_7_code 48 = .ok (.invokevirtual 84, 3) := by decide +kernel
theorem d_Q_lay_51 : decode prog_3_method_7_code 51 = .ok (.istore_n 3, 1) := by decide +kernel
theorem d_Q_lay_52 : decode prog_3_method_7_code 52 = .ok (.iload_n 3, 1) := by decide +kernel
theorem d_Q_lay_53 : decode prog_3_method_7_code 53 = .ok (.ifCond .le 41, 3) := by decide +kernel
theorem d_Q_lay_56 : decode prog_3_method_7_code 56 = .ok (.sipush 420, 3) := by decide +kernel
theorem d_Q_lay_59 : decode prog_3_method_7_code 59 = .ok (.iload_n 3, 1) := by decide +kernel
theorem d_Q_lay_60 : decode prog_3_method_7_code 60 = .ok (.irem, 1) := by decide +kernel
theorem d_Q_lay_61 : decode prog_3_method_7_code 61 = .ok (.ifCond .ne 33, 3) := by decide +kernel
theorem d_Q_lay_64 : decode prog_3_method_7_code 64 = .ok (.aload_n 0, 1) := by decide +kernel
theorem d_Q_lay_65 : decode prog_3_method_7_code 65 = .ok (.getfield 9, 3) := by decide +kernel
theorem d_Q_lay_68 : decode prog_3_method_7_code 68 = .ok (.aload_n 0, 1) := by decide +kernel
theorem d_Q_lay_69 : decode prog_3_method_7_code 69 = .ok (.getfield 30, 3) := by decide +kernel
theorem d_Q_lay_72 : decode prog_3_method_7_code 72 = .ok (.iload_n 2, 1) := by decide +kernel
theorem d_Q_lay_73 : decode prog_3_method_7_code 73 = .ok (.iastore, 1) := by decide +kernel
theorem d_Q_lay_74 : decode prog_3_method_7_code 74 = .ok (.aload_n 0, 1) := by decide +kernel
theorem d_Q_lay_75 : decode prog_3_method_7_code 75 = .ok (.getfield 15, 3) := by decide +kernel
theorem d_Q_lay_78 : decode prog_3_method_7_code 78 = .ok (.aload_n 0, 1) := by decide +kernel
theorem d_Q_lay_79 : decode prog_3_method_7_code 79 = .ok (.getfield 30, 3) := by decide +kernel
theorem d_Q_lay_82 : decode prog_3_method_7_code 82 = .ok (.iload_n 3, 1) := by decide +kernel
theorem d_Q_lay_83 : decode prog_3_method_7_code 83 = .ok (.iastore, 1) := by decide +kernel
theorem d_Q_lay_84 : decode prog_3_method_7_code 84 = .ok (.aload_n 0, 1) := by decide +kernel
theorem d_Q_lay_85 : decode prog_3_method_7_code 85 = .ok (.dup, 1) := by decide +kernel
theorem d_Q_lay_86 : decode prog_3_method_7_code 86 = .ok (.getfield 30, 3) := by decide +kernel
theorem d_Q_lay_89 : decode prog_3_method_7_code 89 = .ok (.iconst 1, 1) := by decide +kernel
theorem d_Q_lay_90 : decode prog_3_method_7_code 90 = .ok (.iadd, 1) := by decide +kernel
theorem d_Q_lay_91 : decode prog_3_method_7_code 91 = .ok (.putfield 30, 3) := by decide +kernel
theorem d_Q_lay_94 : decode prog_3_method_7_code 94 = .ok (.iinc 2 1, 3) := by decide +kernel
theorem d_Q_lay_97 : decode prog_3_method_7_code 97 = .ok (.goto (-68), 3) := by decide +kernel
theorem d_Q_lay_100 : decode prog_3_method_7_code 100 = .ok (.return_, 1) := by decide +kernel
abbrev y_Q_enter : MethodName := ⟨"FrameTables$Search", "enter", "(II)V"⟩
abbrev m_Q_enter : MethodName × ByteArray × Nat × Option FieldType := (y_Q_enter, prog_3_method_8_code, 3, none)
theorem mi_Q_enter : .code y_Q_enter prog_3_method_8_code 3 none ∈ wT := wT_m 310 (by decide +kernel) rfl
theorem d_Q_enter_0 : decode prog_3_method_8_code 0 = .ok (.aload_n 0, 1) := by decide +kernel
theorem d_Q_enter_1 : decode prog_3_method_8_code 1 = .ok (.iload_n 1, 1) := by decide +kernel
theorem d_Q_enter_2 : decode prog_3_method_8_code 2 = .ok (.putfield 34, 3) := by decide +kernel
theorem d_Q_enter_5 : decode prog_3_method_8_code 5 = .ok (.aload_n 0, 1) := by decide +kernel
theorem d_Q_enter_6 : decode prog_3_method_8_code 6 = .ok (.getfield 18, 3) := by decide +kernel
theorem d_Q_enter_9 : decode prog_3_method_8_code 9 = .ok (.iload_n 1, 1) := by decide +kernel
theorem d_Q_enter_10 : decode prog_3_method_8_code 10 = .ok (.iconst 0, 1) := by decide +kernel
theorem d_Q_enter_11 : decode prog_3_method_8_code 11 = .ok (.iastore, 1) := by decide +kernel
theorem d_Q_enter_12 : decode prog_3_method_8_code 12 = .ok (.aload_n 0, 1) := by decide +kernel
theorem d_Q_enter_13 : decode prog_3_method_8_code 13 = .ok (.getfield 21, 3) := by decide +kernel
theorem d_Q_enter_16 : decode prog_3_method_8_code 16 = .ok (.iload_n 1, 1) := by decide +kernel
theorem d_Q_enter_17 : decode prog_3_method_8_code 17 = .ok (.iload_n 2, 1) := by decide +kernel
theorem d_Q_enter_18 : decode prog_3_method_8_code 18 = .ok (.iastore, 1) := by decide +kernel
theorem d_Q_enter_19 : decode prog_3_method_8_code 19 = .ok (.return_, 1) := by decide +kernel
abbrev y_Q_isOver : MethodName := ⟨"FrameTables$Search", "isOver", "()Z"⟩
abbrev m_Q_isOver : MethodName × ByteArray × Nat × Option FieldType := (y_Q_isOver, prog_3_method_3_code, 1, some .boolean)
theorem mi_Q_isOver : .code y_Q_isOver prog_3_method_3_code 1 (some .boolean) ∈ wT := wT_m 314 (by decide +kernel) rfl
theorem d_Q_isOver_0 : decode prog_3_method_3_code 0 = .ok (.aload_n 0, 1) := by decide +kernel
theorem d_Q_isOver_1 : decode prog_3_method_3_code 1 = .ok (.getfield 34, 3) := by decide +kernel
theorem d_Q_isOver_4 : decode prog_3_method_3_code 4 = .ok (.ifCond .ge 7, 3) := by decide +kernel
theorem d_Q_isOver_7 : decode prog_3_method_3_code 7 = .ok (.iconst 1, 1) := by decide +kernel
theorem d_Q_isOver_8 : decode prog_3_method_3_code 8 = .ok (.goto 4, 3) := by decide +kernel
theorem d_Q_isOver_11 : decode prog_3_method_3_code 11 = .ok (.iconst 0, 1) := by decide +kernel
theorem d_Q_isOver_12 : decode prog_3_method_3_code 12 = .ok (.ireturn, 1) := by decide +kernel
abbrev y_Q_step : MethodName := ⟨"FrameTables$Search", "step", "()V"⟩
abbrev m_Q_step : MethodName × ByteArray × Nat × Option FieldType := (y_Q_step, prog_3_method_4_code, 3, none)
theorem mi_Q_step : .code y_Q_step prog_3_method_4_code 3 none ∈ wT := wT_m 318 (by decide +kernel) rfl
theorem d_Q_step_0 : decode prog_3_method_4_code 0 = .ok (.aload_n 0, 1) := by decide +kernel
theorem d_Q_step_1 : decode prog_3_method_4_code 1 = .ok (.invokevirtual 48, 3) := by decide +kernel
theorem d_Q_step_4 : decode prog_3_method_4_code 4 = .ok (.ifCond .eq 4, 3) := by decide +kernel
theorem d_Q_step_7 : decode prog_3_method_4_code 7 = .ok (.return_, 1) := by decide +kernel
theorem d_Q_step_8 : decode prog_3_method_4_code 8 = .ok (.aload_n 0, 1) := by decide +kernel
theorem d_Q_step_9 : decode prog_3_method_4_code 9 = .ok (.getfield 18, 3) := by decide +kernel
theorem d_Q_step_12 : decode prog_3_method_4_code 12 = .ok (.aload_n 0, 1) := by decide +kernel
theorem d_Q_step_13 : decode prog_3_method_4_code 13 = .ok (.getfield 34, 3) := by decide +kernel
theorem d_Q_step_16 : decode prog_3_method_4_code 16 = .ok (.iaload, 1) := by decide +kernel
theorem d_Q_step_17 : decode prog_3_method_4_code 17 = .ok (.istore_n 1, 1) := by decide +kernel
theorem d_Q_step_18 : decode prog_3_method_4_code 18 = .ok (.aload_n 0, 1) := by decide +kernel
theorem d_Q_step_19 : decode prog_3_method_4_code 19 = .ok (.getfield 18, 3) := by decide +kernel
theorem d_Q_step_22 : decode prog_3_method_4_code 22 = .ok (.aload_n 0, 1) := by decide +kernel
theorem d_Q_step_23 : decode prog_3_method_4_code 23 = .ok (.getfield 34, 3) := by decide +kernel
theorem d_Q_step_26 : decode prog_3_method_4_code 26 = .ok (.dup2, 1) := by decide +kernel
theorem d_Q_step_27 : decode prog_3_method_4_code 27 = .ok (.iaload, 1) := by decide +kernel
theorem d_Q_step_28 : decode prog_3_method_4_code 28 = .ok (.iconst 1, 1) := by decide +kernel
theorem d_Q_step_29 : decode prog_3_method_4_code 29 = .ok (.iadd, 1) := by decide +kernel
theorem d_Q_step_30 : decode prog_3_method_4_code 30 = .ok (.iastore, 1) := by decide +kernel
theorem d_Q_step_31 : decode prog_3_method_4_code 31 = .ok (.aload_n 0, 1) := by decide +kernel
theorem d_Q_step_32 : decode prog_3_method_4_code 32 = .ok (.getfield 21, 3) := by decide +kernel
theorem d_Q_step_35 : decode prog_3_method_4_code 35 = .ok (.aload_n 0, 1) := by decide +kernel
theorem d_Q_step_36 : decode prog_3_method_4_code 36 = .ok (.getfield 34, 3) := by decide +kernel
theorem d_Q_step_39 : decode prog_3_method_4_code 39 = .ok (.iaload, 1) := by decide +kernel
theorem d_Q_step_40 : decode prog_3_method_4_code 40 = .ok (.aload_n 0, 1) := by decide +kernel
theorem d_Q_step_41 : decode prog_3_method_4_code 41 = .ok (.aload_n 0, 1) := by decide +kernel
theorem d_Q_step_42 : decode prog_3_method_4_code 42 = .ok (.getfield 34, 3) := by decide +kernel
theorem d_Q_step_45 : decode prog_3_method_4_code 45 = .ok (.iload_n 1, 1) := by decide +kernel
theorem d_Q_step_46 : decode prog_3_method_4_code 46 = .ok (.invokevirtual 52, 3) := by decide +kernel
theorem d_Q_step_49 : decode prog_3_method_4_code 49 = .ok (.invokestatic 56, 3) := by decide +kernel
theorem d_Q_step_52 : decode prog_3_method_4_code 52 = .ok (.istore_n 2, 1) := by decide +kernel
theorem d_Q_step_53 : decode prog_3_method_4_code 53 = .ok (.iload_n 2, 1) := by decide +kernel
theorem d_Q_step_54 : decode prog_3_method_4_code 54 = .ok (.aload_n 0, 1) := by decide +kernel
theorem d_Q_step_55 : decode prog_3_method_4_code 55 = .ok (.getfield 37, 3) := by decide +kernel
theorem d_Q_step_58 : decode prog_3_method_4_code 58 = .ok (.if_icmp .ge 9, 3) := by decide +kernel
theorem d_Q_step_61 : decode prog_3_method_4_code 61 = .ok (.aload_n 0, 1) := by decide +kernel
theorem d_Q_step_62 : decode prog_3_method_4_code 62 = .ok (.iload_n 1, 1) := by decide +kernel
theorem d_Q_step_63 : decode prog_3_method_4_code 63 = .ok (.iload_n 2, 1) := by decide +kernel
theorem d_Q_step_64 : decode prog_3_method_4_code 64 = .ok (.invokevirtual 61, 3) := by decide +kernel
theorem d_Q_step_67 : decode prog_3_method_4_code 67 = .ok (.aload_n 0, 1) := by decide +kernel
theorem d_Q_step_68 : decode prog_3_method_4_code 68 = .ok (.invokevirtual 64, 3) := by decide +kernel
theorem d_Q_step_71 : decode prog_3_method_4_code 71 = .ok (.return_, 1) := by decide +kernel
abbrev y_Q_mostBeginsWith : MethodName := ⟨"FrameTables$Search", "mostBeginsWith", "(II)I"⟩
abbrev m_Q_mostBeginsWith : MethodName × ByteArray × Nat × Option FieldType := (y_Q_mostBeginsWith, prog_3_method_13_code, 6, some .int)
theorem mi_Q_mostBeginsWith : .code y_Q_mostBeginsWith prog_3_method_13_code 6 (some .int) ∈ wT := wT_m 323 (by decide +kernel) rfl
theorem d_Q_mostBeginsWith_0 : decode prog_3_method_13_code 0 = .ok (.iconst 1, 1) := by decide +kernel
theorem d_Q_mostBeginsWith_1 : decode prog_3_method_13_code 1 = .ok (.aload_n 0, 1) := by decide +kernel
theorem d_Q_mostBeginsWith_2 : decode prog_3_method_13_code 2 = .ok (.getfield 15, 3) := by decide +kernel
theorem d_Q_mostBeginsWith_5 : decode prog_3_method_13_code 5 = .ok (.iload_n 1, 1) := by decide +kernel
theorem d_Q_mostBeginsWith_6 : decode prog_3_method_13_code 6 = .ok (.iaload, 1) := by decide +kernel
theorem d_Q_mostBeginsWith_7 : decode prog_3_method_13_code 7 = .ok (.invokestatic 56, 3) := by decide +kernel
theorem d_Q_mostBeginsWith_10 : decode prog_3_method_13_code 10 = .ok (.istore_n 3, 1) := by decide +kernel
theorem d_Q_mostBeginsWith_11 : decode prog_3_method_13_code 11 = .ok (.iconst 0, 1) := by decide +kernel
theorem d_Q_mostBeginsWith_12 : decode prog_3_method_13_code 12 = .ok (.istore 4, 2) := by decide +kernel
theorem d_Q_mostBeginsWith_14 : decode prog_3_method_13_code 14 = .ok (.iload_n 2, 1) := by decide +kernel
theorem d_Q_mostBeginsWith_15 : decode prog_3_method_13_code 15 = .ok (.istore 5, 2) := by decide +kernel
theorem d_Q_mostBeginsWith_17 : decode prog_3_method_13_code 17 = .ok (.iload 5, 2) := by decide +kernel
theorem d_Q_mostBeginsWith_19 : decode prog_3_method_13_code 19 = .ok (.sipush 420, 3) := by decide +kernel
theorem d_Q_mostBeginsWith_22 : decode prog_3_method_13_code 22 = .ok (.if_icmp .ge 28, 3) := by decide +kernel
theorem d_Q_mostBeginsWith_25 : decode prog_3_method_13_code 25 = .ok (.iload 4, 2) := by decide +kernel
theorem d_Q_mostBeginsWith_27 : decode prog_3_method_13_code 27 = .ok (.aload_n 0, 1) := by decide +kernel
theorem d_Q_mostBeginsWith_28 : decode prog_3_method_13_code 28 = .ok (.getfield 27, 3) := by decide +kernel
theorem d_Q_mostBeginsWith_31 : decode prog_3_method_13_code 31 = .ok (.iload 5, 2) := by decide +kernel
theorem d_Q_mostBeginsWith_33 : decode prog_3_method_13_code 33 = .ok (.iaload, 1) := by decide +kernel
theorem d_Q_mostBeginsWith_34 : decode prog_3_method_13_code 34 = .ok (.iconst 1, 1) := by decide +kernel
theorem d_Q_mostBeginsWith_35 : decode prog_3_method_13_code 35 = .ok (.iadd, 1) := by decide +kernel
theorem d_Q_mostBeginsWith_36 : decode prog_3_method_13_code 36 = .ok (.invokestatic 56, 3) := by decide +kernel
theorem d_Q_mostBeginsWith_39 : decode prog_3_method_13_code 39 = .ok (.istore 4, 2) := by decide +kernel
theorem d_Q_mostBeginsWith_41 : decode prog_3_method_13_code 41 = .ok (.iload 5, 2) := by decide +kernel
theorem d_Q_mostBeginsWith_43 : decode prog_3_method_13_code 43 = .ok (.iload_n 3, 1) := by decide +kernel
theorem d_Q_mostBeginsWith_44 : decode prog_3_method_13_code 44 = .ok (.iadd, 1) := by decide +kernel
theorem d_Q_mostBeginsWith_45 : decode prog_3_method_13_code 45 = .ok (.istore 5, 2) := by decide +kernel
theorem d_Q_mostBeginsWith_47 : decode prog_3_method_13_code 47 = .ok (.goto (-30), 3) := by decide +kernel
theorem d_Q_mostBeginsWith_50 : decode prog_3_method_13_code 50 = .ok (.iload 4, 2) := by decide +kernel
theorem d_Q_mostBeginsWith_52 : decode prog_3_method_13_code 52 = .ok (.ireturn, 1) := by decide +kernel
abbrev y_Q_goOn : MethodName := ⟨"FrameTables$Search", "goOn", "(II)V"⟩
abbrev m_Q_goOn : MethodName × ByteArray × Nat × Option FieldType := (y_Q_goOn, prog_3_method_9_code, 3, none)
theorem mi_Q_goOn : .code y_Q_goOn prog_3_method_9_code 3 none ∈ wT := wT_m 330 (by decide +kernel) rfl
theorem d_Q_goOn_0 : decode prog_3_method_9_code 0 = .ok (.aload_n 0, 1) := by decide +kernel
theorem d_Q_goOn_1 : decode prog_3_method_9_code 1 = .ok (.getfield 34, 3) := by decide +kernel
theorem d_Q_goOn_4 : decode prog_3_method_9_code 4 = .ok (.iconst 1, 1) := by decide +kernel
theorem d_Q_goOn_5 : decode prog_3_method_9_code 5 = .ok (.iadd, 1) := by decide +kernel
theorem d_Q_goOn_6 : decode prog_3_method_9_code 6 = .ok (.aload_n 0, 1) := by decide +kernel
theorem d_Q_goOn_7 : decode prog_3_method_9_code 7 = .ok (.getfield 30, 3) := by decide +kernel
theorem d_Q_goOn_10 : decode prog_3_method_9_code 10 = .ok (.if_icmp .ge 27, 3) := by decide +kernel
theorem d_Q_goOn_13 : decode prog_3_method_9_code 13 = .ok (.aload_n 0, 1) := by decide +kernel
theorem d_Q_goOn_14 : decode prog_3_method_9_code 14 = .ok (.aload_n 0, 1) := by decide +kernel
theorem d_Q_goOn_15 : decode prog_3_method_9_code 15 = .ok (.getfield 34, 3) := by decide +kernel
theorem d_Q_goOn_18 : decode prog_3_method_9_code 18 = .ok (.iload_n 1, 1) := by decide +kernel
theorem d_Q_goOn_19 : decode prog_3_method_9_code 19 = .ok (.iconst 1, 1) := by decide +kernel
theorem d_Q_goOn_20 : decode prog_3_method_9_code 20 = .ok (.invokevirtual 76, 3) := by decide +kernel
theorem d_Q_goOn_23 : decode prog_3_method_9_code 23 = .ok (.aload_n 0, 1) := by decide +kernel
theorem d_Q_goOn_24 : decode prog_3_method_9_code 24 = .ok (.aload_n 0, 1) := by decide +kernel
theorem d_Q_goOn_25 : decode prog_3_method_9_code 25 = .ok (.getfield 34, 3) := by decide +kernel
theorem d_Q_goOn_28 : decode prog_3_method_9_code 28 = .ok (.iconst 1, 1) := by decide +kernel
theorem d_Q_goOn_29 : decode prog_3_method_9_code 29 = .ok (.iadd, 1) := by decide +kernel
theorem d_Q_goOn_30 : decode prog_3_method_9_code 30 = .ok (.iload_n 2, 1) := by decide +kernel
theorem d_Q_goOn_31 : decode prog_3_method_9_code 31 = .ok (.invokevirtual 44, 3) := by decide +kernel
theorem d_Q_goOn_34 : decode prog_3_method_9_code 34 = .ok (.goto 8, 3) := by decide +kernel
theorem d_Q_goOn_37 : decode prog_3_method_9_code 37 = .ok (.aload_n 0, 1) := by decide +kernel
theorem d_Q_goOn_38 : decode prog_3_method_9_code 38 = .ok (.iload_n 2, 1) := by decide +kernel
theorem d_Q_goOn_39 : decode prog_3_method_9_code 39 = .ok (.invokevirtual 87, 3) := by decide +kernel
theorem d_Q_goOn_42 : decode prog_3_method_9_code 42 = .ok (.return_, 1) := by decide +kernel
abbrev y_Q_addBegins : MethodName := ⟨"FrameTables$Search", "addBegins", "(III)V"⟩
abbrev m_Q_addBegins : MethodName × ByteArray × Nat × Option FieldType := (y_Q_addBegins, prog_3_method_14_code, 6, none)
theorem mi_Q_addBegins : .code y_Q_addBegins prog_3_method_14_code 6 none ∈ wT := wT_m 334 (by decide +kernel) rfl
theorem d_Q_addBegins_0 : decode prog_3_method_14_code 0 = .ok (.iconst 1, 1) := by decide +kernel
theorem d_Q_addBegins_1 : decode prog_3_method_14_code 1 = .ok (.aload_n 0, 1) := by decide +kernel
theorem d_Q_addBegins_2 : decode prog_3_method_14_code 2 = .ok (.getfield 15, 3) := by decide +kernel
theorem d_Q_addBegins_5 : decode prog_3_method_14_code 5 = .ok (.iload_n 1, 1) := by decide +kernel
theorem d_Q_addBegins_6 : decode prog_3_method_14_code 6 = .ok (.iaload, 1) := by decide +kernel
theorem d_Q_addBegins_7 : decode prog_3_method_14_code 7 = .ok (.invokestatic 56, 3) := by decide +kernel
theorem d_Q_addBegins_10 : decode prog_3_method_14_code 10 = .ok (.istore 4, 2) := by decide +kernel
theorem d_Q_addBegins_12 : decode prog_3_method_14_code 12 = .ok (.iload_n 2, 1) := by decide +kernel
theorem d_Q_addBegins_13 : decode prog_3_method_14_code 13 = .ok (.istore 5, 2) := by decide +kernel
theorem d_Q_addBegins_15 : decode prog_3_method_14_code 15 = .ok (.iload 5, 2) := by decide +kernel
theorem d_Q_addBegins_17 : decode prog_3_method_14_code 17 = .ok (.sipush 420, 3) := by decide +kernel
theorem d_Q_addBegins_20 : decode prog_3_method_14_code 20 = .ok (.if_icmp .ge 24, 3) := by decide +kernel
theorem d_Q_addBegins_23 : decode prog_3_method_14_code 23 = .ok (.aload_n 0, 1) := by decide +kernel
theorem d_Q_addBegins_24 : decode prog_3_method_14_code 24 = .ok (.getfield 27, 3) := by decide +kernel
theorem d_Q_addBegins_27 : decode prog_3_method_14_code 27 = .ok (.iload 5, 2) := by decide +kernel
theorem d_Q_addBegins_29 : decode prog_3_method_14_code 29 = .ok (.dup2, 1) := by decide +kernel
theorem d_Q_addBegins_30 : decode prog_3_method_14_code 30 = .ok (.iaload, 1) := by decide +kernel
theorem d_Q_addBegins_31 : decode prog_3_method_14_code 31 = .ok (.iload_n 3, 1) := by decide +kernel
theorem d_Q_addBegins_32 : decode prog_3_method_14_code 32 = .ok (.iadd, 1) := by decide +kernel
theorem d_Q_addBegins_33 : decode prog_3_method_14_code 33 = .ok (.iastore, 1) := by decide +kernel
theorem d_Q_addBegins_34 : decode prog_3_method_14_code 34 = .ok (.iload 5, 2) := by decide +kernel
theorem d_Q_addBegins_36 : decode prog_3_method_14_code 36 = .ok (.iload 4, 2) := by decide +kernel
theorem d_Q_addBegins_38 : decode prog_3_method_14_code 38 = .ok (.iadd, 1) := by decide +kernel
theorem d_Q_addBegins_39 : decode prog_3_method_14_code 39 = .ok (.istore 5, 2) := by decide +kernel
theorem d_Q_addBegins_41 : decode prog_3_method_14_code 41 = .ok (.goto (-26), 3) := by decide +kernel
theorem d_Q_addBegins_44 : decode prog_3_method_14_code 44 = .ok (.return_, 1) := by decide +kernel
abbrev y_Q_keepRow : MethodName := ⟨"FrameTables$Search", "keepRow", "(I)V"⟩
abbrev m_Q_keepRow : MethodName × ByteArray × Nat × Option FieldType := (y_Q_keepRow, prog_3_method_10_code, 3, none)
theorem mi_Q_keepRow : .code y_Q_keepRow prog_3_method_10_code 3 none ∈ wT := wT_m 338 (by decide +kernel) rfl
theorem d_Q_keepRow_0 : decode prog_3_method_10_code 0 = .ok (.aload_n 0, 1) := by decide +kernel
theorem d_Q_keepRow_1 : decode prog_3_method_10_code 1 = .ok (.iload_n 1, 1) := by decide +kernel
theorem d_Q_keepRow_2 : decode prog_3_method_10_code 2 = .ok (.putfield 37, 3) := by decide +kernel
theorem d_Q_keepRow_5 : decode prog_3_method_10_code 5 = .ok (.iconst 0, 1) := by decide +kernel
theorem d_Q_keepRow_6 : decode prog_3_method_10_code 6 = .ok (.istore_n 2, 1) := by decide +kernel
theorem d_Q_keepRow_7 : decode prog_3_method_10_code 7 = .ok (.iload_n 2, 1) := by decide +kernel
theorem d_Q_keepRow_8 : decode prog_3_method_10_code 8 = .ok (.aload_n 0, 1) := by decide +kernel
theorem d_Q_keepRow_9 : decode prog_3_method_10_code 9 = .ok (.getfield 30, 3) := by decide +kernel
theorem d_Q_keepRow_12 : decode prog_3_method_10_code 12 = .ok (.if_icmp .ge 23, 3) := by decide +kernel
theorem d_Q_keepRow_15 : decode prog_3_method_10_code 15 = .ok (.aload_n 0, 1) := by decide +kernel
theorem d_Q_keepRow_16 : decode prog_3_method_10_code 16 = .ok (.getfield 24, 3) := by decide +kernel
theorem d_Q_keepRow_19 : decode prog_3_method_10_code 19 = .ok (.iload_n 2, 1) := by decide +kernel
theorem d_Q_keepRow_20 : decode prog_3_method_10_code 20 = .ok (.aload_n 0, 1) := by decide +kernel
theorem d_Q_keepRow_21 : decode prog_3_method_10_code 21 = .ok (.getfield 18, 3) := by decide +kernel
theorem d_Q_keepRow_24 : decode prog_3_method_10_code 24 = .ok (.iload_n 2, 1) := by decide +kernel
theorem d_Q_keepRow_25 : decode prog_3_method_10_code 25 = .ok (.iaload, 1) := by decide +kernel
theorem d_Q_keepRow_26 : decode prog_3_method_10_code 26 = .ok (.iconst 1, 1) := by decide +kernel
theorem d_Q_keepRow_27 : decode prog_3_method_10_code 27 = .ok (.isub, 1) := by decide +kernel
theorem d_Q_keepRow_28 : decode prog_3_method_10_code 28 = .ok (.iastore, 1) := by decide +kernel
theorem d_Q_keepRow_29 : decode prog_3_method_10_code 29 = .ok (.iinc 2 1, 3) := by decide +kernel
theorem d_Q_keepRow_32 : decode prog_3_method_10_code 32 = .ok (.goto (-25), 3) := by decide +kernel
theorem d_Q_keepRow_35 : decode prog_3_method_10_code 35 = .ok (.return_, 1) := by decide +kernel
abbrev y_Q_leaveClosedPlaces : MethodName := ⟨"FrameTables$Search", "leaveClosedPlaces", "()V"⟩
abbrev m_Q_leaveClosedPlaces : MethodName × ByteArray × Nat × Option FieldType := (y_Q_leaveClosedPlaces, prog_3_method_11_code, 1, none)
theorem mi_Q_leaveClosedPlaces : .code y_Q_leaveClosedPlaces prog_3_method_11_code 1 none ∈ wT := wT_m 342 (by decide +kernel) rfl
theorem d_Q_leaveClosedPlaces_0 : decode prog_3_method_11_code 0 = .ok (.aload_n 0, 1) := by decide +kernel
theorem d_Q_leaveClosedPlaces_1 : decode prog_3_method_11_code 1 = .ok (.getfield 34, 3) := by decide +kernel
theorem d_Q_leaveClosedPlaces_4 : decode prog_3_method_11_code 4 = .ok (.ifCond .lt 54, 3) := by decide +kernel
theorem d_Q_leaveClosedPlaces_7 : decode prog_3_method_11_code 7 = .ok (.aload_n 0, 1) := by decide +kernel
theorem d_Q_leaveClosedPlaces_8 : decode prog_3_method_11_code 8 = .ok (.aload_n 0, 1) := by decide +kernel
theorem d_Q_leaveClosedPlaces_9 : decode prog_3_method_11_code 9 = .ok (.getfield 34, 3) := by decide +kernel
theorem d_Q_leaveClosedPlaces_12 : decode prog_3_method_11_code 12 = .ok (.invokevirtual 91, 3) := by decide +kernel
theorem d_Q_leaveClosedPlaces_15 : decode prog_3_method_11_code 15 = .ok (.ifCond .eq 43, 3) := by decide +kernel
theorem d_Q_leaveClosedPlaces_18 : decode prog_3_method_11_code 18 = .ok (.aload_n 0, 1) := by decide +kernel
theorem d_Q_leaveClosedPlaces_19 : decode prog_3_method_11_code 19 = .ok (.dup, 1) := by decide +kernel
theorem d_Q_leaveClosedPlaces_20 : decode prog_3_method_11_code 20 = .ok (.getfield 34, 3) := by decide +kernel
theorem d_Q_leaveClosedPlaces_23 : decode prog_3_method_11_code 23 = .ok (.iconst 1, 1) := by decide +kernel
theorem d_Q_leaveClosedPlaces_24 : decode prog_3_method_11_code 24 = .ok (.isub, 1) := by decide +kernel
theorem d_Q_leaveClosedPlaces_25 : decode prog_3_method_11_code 25 = .ok (.putfield 34, 3) := by decide +kernel
theorem d_Q_leaveClosedPlaces_28 : decode prog_3_method_11_code 28 = .ok (.aload_n 0, 1) := by decide +kernel
theorem d_Q_leaveClosedPlaces_29 : decode prog_3_method_11_code 29 = .ok (.getfield 34, 3) := by decide +kernel
theorem d_Q_leaveClosedPlaces_32 : decode prog_3_method_11_code 32 = .ok (.ifCond .lt (-32), 3) := by decide +kernel
theorem d_Q_leaveClosedPlaces_35 : decode prog_3_method_11_code 35 = .ok (.aload_n 0, 1) := by decide +kernel
theorem d_Q_leaveClosedPlaces_36 : decode prog_3_method_11_code 36 = .ok (.aload_n 0, 1) := by decide +kernel
theorem d_Q_leaveClosedPlaces_37 : decode prog_3_method_11_code 37 = .ok (.getfield 34, 3) := by decide +kernel
theorem d_Q_leaveClosedPlaces_40 : decode prog_3_method_11_code 40 = .ok (.aload_n 0, 1) := by decide +kernel
theorem d_Q_leaveClosedPlaces_41 : decode prog_3_method_11_code 41 = .ok (.getfield 18, 3) := by decide +kernel
theorem d_Q_leaveClosedPlaces_44 : decode prog_3_method_11_code 44 = .ok (.aload_n 0, 1) := by decide +kernel
theorem d_Q_leaveClosedPlaces_45 : decode prog_3_method_11_code 45 = .ok (.getfield 34, 3) := by decide +kernel
theorem d_Q_leaveClosedPlaces_48 : decode prog_3_method_11_code 48 = .ok (.iaload, 1) := by decide +kernel
theorem d_Q_leaveClosedPlaces_49 : decode prog_3_method_11_code 49 = .ok (.iconst 1, 1) := by decide +kernel
theorem d_Q_leaveClosedPlaces_50 : decode prog_3_method_11_code 50 = .ok (.isub, 1) := by decide +kernel
theorem d_Q_leaveClosedPlaces_51 : decode prog_3_method_11_code 51 = .ok (.iconst (-1), 1) := by decide +kernel
theorem d_Q_leaveClosedPlaces_52 : decode prog_3_method_11_code 52 = .ok (.invokevirtual 76, 3) := by decide +kernel
theorem d_Q_leaveClosedPlaces_55 : decode prog_3_method_11_code 55 = .ok (.goto (-55), 3) := by decide +kernel
theorem d_Q_leaveClosedPlaces_58 : decode prog_3_method_11_code 58 = .ok (.return_, 1) := by decide +kernel
abbrev y_Q_isClosed : MethodName := ⟨"FrameTables$Search", "isClosed", "(I)Z"⟩
abbrev m_Q_isClosed : MethodName × ByteArray × Nat × Option FieldType := (y_Q_isClosed, prog_3_method_12_code, 2, some .boolean)
theorem mi_Q_isClosed : .code y_Q_isClosed prog_3_method_12_code 2 (some .boolean) ∈ wT := wT_m 346 (by decide +kernel) rfl
theorem d_Q_isClosed_0 : decode prog_3_method_12_code 0 = .ok (.aload_n 0, 1) := by decide +kernel
theorem d_Q_isClosed_1 : decode prog_3_method_12_code 1 = .ok (.getfield 18, 3) := by decide +kernel
theorem d_Q_isClosed_4 : decode prog_3_method_12_code 4 = .ok (.iload_n 1, 1) := by decide +kernel
theorem d_Q_isClosed_5 : decode prog_3_method_12_code 5 = .ok (.iaload, 1) := by decide +kernel
theorem d_Q_isClosed_6 : decode prog_3_method_12_code 6 = .ok (.aload_n 0, 1) := by decide +kernel
theorem d_Q_isClosed_7 : decode prog_3_method_12_code 7 = .ok (.getfield 15, 3) := by decide +kernel
theorem d_Q_isClosed_10 : decode prog_3_method_12_code 10 = .ok (.iload_n 1, 1) := by decide +kernel
theorem d_Q_isClosed_11 : decode prog_3_method_12_code 11 = .ok (.iaload, 1) := by decide +kernel
theorem d_Q_isClosed_12 : decode prog_3_method_12_code 12 = .ok (.if_icmp .ge 16, 3) := by decide +kernel
theorem d_Q_isClosed_15 : decode prog_3_method_12_code 15 = .ok (.aload_n 0, 1) := by decide +kernel
theorem d_Q_isClosed_16 : decode prog_3_method_12_code 16 = .ok (.getfield 21, 3) := by decide +kernel
theorem d_Q_isClosed_19 : decode prog_3_method_12_code 19 = .ok (.iload_n 1, 1) := by decide +kernel
theorem d_Q_isClosed_20 : decode prog_3_method_12_code 20 = .ok (.iaload, 1) := by decide +kernel
theorem d_Q_isClosed_21 : decode prog_3_method_12_code 21 = .ok (.aload_n 0, 1) := by decide +kernel
theorem d_Q_isClosed_22 : decode prog_3_method_12_code 22 = .ok (.getfield 37, 3) := by decide +kernel
theorem d_Q_isClosed_25 : decode prog_3_method_12_code 25 = .ok (.if_icmp .lt 7, 3) := by decide +kernel
theorem d_Q_isClosed_28 : decode prog_3_method_12_code 28 = .ok (.iconst 1, 1) := by decide +kernel
theorem d_Q_isClosed_29 : decode prog_3_method_12_code 29 = .ok (.goto 4, 3) := by decide +kernel
theorem d_Q_isClosed_32 : decode prog_3_method_12_code 32 = .ok (.iconst 0, 1) := by decide +kernel
theorem d_Q_isClosed_33 : decode prog_3_method_12_code 33 = .ok (.ireturn, 1) := by decide +kernel
abbrev y_Q_giveBestRowTo : MethodName := ⟨"FrameTables$Search", "giveBestRowTo", "(LFrameTables$Table;)V"⟩
abbrev m_Q_giveBestRowTo : MethodName × ByteArray × Nat × Option FieldType := (y_Q_giveBestRowTo, prog_3_method_5_code, 3, none)
theorem mi_Q_giveBestRowTo : .code y_Q_giveBestRowTo prog_3_method_5_code 3 none ∈ wT := wT_m 350 (by decide +kernel) rfl
theorem d_Q_giveBestRowTo_0 : decode prog_3_method_5_code 0 = .ok (.aload_n 0, 1) := by decide +kernel
theorem d_Q_giveBestRowTo_1 : decode prog_3_method_5_code 1 = .ok (.getfield 37, 3) := by decide +kernel
theorem d_Q_giveBestRowTo_4 : decode prog_3_method_5_code 4 = .ok (.bipush 40, 2) := by decide +kernel
theorem d_Q_giveBestRowTo_6 : decode prog_3_method_5_code 6 = .ok (.if_icmp .le 4, 3) := by decide +kernel
theorem d_Q_giveBestRowTo_9 : decode prog_3_method_5_code 9 = .ok (.return_, 1) := by decide +kernel
theorem d_Q_giveBestRowTo_10 : decode prog_3_method_5_code 10 = .ok (.iconst 0, 1) := by decide +kernel
theorem d_Q_giveBestRowTo_11 : decode prog_3_method_5_code 11 = .ok (.istore_n 2, 1) := by decide +kernel
theorem d_Q_giveBestRowTo_12 : decode prog_3_method_5_code 12 = .ok (.iload_n 2, 1) := by decide +kernel
theorem d_Q_giveBestRowTo_13 : decode prog_3_method_5_code 13 = .ok (.aload_n 0, 1) := by decide +kernel
theorem d_Q_giveBestRowTo_14 : decode prog_3_method_5_code 14 = .ok (.getfield 30, 3) := by decide +kernel
theorem d_Q_giveBestRowTo_17 : decode prog_3_method_5_code 17 = .ok (.if_icmp .ge 25, 3) := by decide +kernel
theorem d_Q_giveBestRowTo_20 : decode prog_3_method_5_code 20 = .ok (.aload_n 1, 1) := by decide +kernel
theorem d_Q_giveBestRowTo_21 : decode prog_3_method_5_code 21 = .ok (.aload_n 0, 1) := by decide +kernel
theorem d_Q_giveBestRowTo_22 : decode prog_3_method_5_code 22 = .ok (.getfield 9, 3) := by decide +kernel
theorem d_Q_giveBestRowTo_25 : decode prog_3_method_5_code 25 = .ok (.iload_n 2, 1) := by decide +kernel
theorem d_Q_giveBestRowTo_26 : decode prog_3_method_5_code 26 = .ok (.iaload, 1) := by decide +kernel
theorem d_Q_giveBestRowTo_27 : decode prog_3_method_5_code 27 = .ok (.aload_n 0, 1) := by decide +kernel
theorem d_Q_giveBestRowTo_28 : decode prog_3_method_5_code 28 = .ok (.getfield 24, 3) := by decide +kernel
theorem d_Q_giveBestRowTo_31 : decode prog_3_method_5_code 31 = .ok (.iload_n 2, 1) := by decide +kernel
theorem d_Q_giveBestRowTo_32 : decode prog_3_method_5_code 32 = .ok (.iaload, 1) := by decide +kernel
theorem d_Q_giveBestRowTo_33 : decode prog_3_method_5_code 33 = .ok (.invokevirtual 67, 3) := by decide +kernel
theorem d_Q_giveBestRowTo_36 : decode prog_3_method_5_code 36 = .ok (.iinc 2 1, 3) := by decide +kernel
theorem d_Q_giveBestRowTo_39 : decode prog_3_method_5_code 39 = .ok (.goto (-27), 3) := by decide +kernel
theorem d_Q_giveBestRowTo_42 : decode prog_3_method_5_code 42 = .ok (.return_, 1) := by decide +kernel
abbrev y_Q_peakOf : MethodName := ⟨"FrameTables$Search", "peakOf", "(LFrameTables$Table;)I"⟩
abbrev m_Q_peakOf : MethodName × ByteArray × Nat × Option FieldType := (y_Q_peakOf, prog_3_method_6_code, 5, some .int)
theorem mi_Q_peakOf : .code y_Q_peakOf prog_3_method_6_code 5 (some .int) ∈ wT := wT_m 358 (by decide +kernel) rfl
theorem d_Q_peakOf_0 : decode prog_3_method_6_code 0 = .ok (.aload_n 0, 1) := by decide +kernel
theorem d_Q_peakOf_1 : decode prog_3_method_6_code 1 = .ok (.aload_n 1, 1) := by decide +kernel
theorem d_Q_peakOf_2 : decode prog_3_method_6_code 2 = .ok (.invokevirtual 40, 3) := by decide +kernel
theorem d_Q_peakOf_5 : decode prog_3_method_6_code 5 = .ok (.iconst 0, 1) := by decide +kernel
theorem d_Q_peakOf_6 : decode prog_3_method_6_code 6 = .ok (.istore_n 2, 1) := by decide +kernel
theorem d_Q_peakOf_7 : decode prog_3_method_6_code 7 = .ok (.iconst 0, 1) := by decide +kernel
theorem d_Q_peakOf_8 : decode prog_3_method_6_code 8 = .ok (.istore_n 3, 1) := by decide +kernel
theorem d_Q_peakOf_9 : decode prog_3_method_6_code 9 = .ok (.iload_n 3, 1) := by decide +kernel
theorem d_Q_peakOf_10 : decode prog_3_method_6_code 10 = .ok (.aload_n 0, 1) := by decide +kernel
theorem d_Q_peakOf_11 : decode prog_3_method_6_code 11 = .ok (.getfield 30, 3) := by decide +kernel
theorem d_Q_peakOf_14 : decode prog_3_method_6_code 14 = .ok (.if_icmp .ge 41, 3) := by decide +kernel
theorem d_Q_peakOf_17 : decode prog_3_method_6_code 17 = .ok (.aload_n 1, 1) := by decide +kernel
theorem d_Q_peakOf_18 : decode prog_3_method_6_code 18 = .ok (.aload_n 0, 1) := by decide +kernel
theorem d_Q_peakOf_19 : decode prog_3_method_6_code 19 = .ok (.getfield 9, 3) := by decide +kernel
theorem d_Q_peakOf_22 : decode prog_3_method_6_code 22 = .ok (.iload_n 3, 1) := by decide +kernel
theorem d_Q_peakOf_23 : decode prog_3_method_6_code 23 = .ok (.iaload, 1) := by decide +kernel
theorem d_Q_peakOf_24 : decode prog_3_method_6_code 24 = .ok (.invokevirtual 72, 3) := by decide +kernel
theorem d_Q_peakOf_27 : decode prog_3_method_6_code 27 = .ok (.istore 4, 2) := by decide +kernel
theorem d_Q_peakOf_29 : decode prog_3_method_6_code 29 = .ok (.iload_n 2, 1) := by decide +kernel
theorem d_Q_peakOf_30 : decode prog_3_method_6_code 30 = .ok (.aload_n 0, 1) := by decide +kernel
theorem d_Q_peakOf_31 : decode prog_3_method_6_code 31 = .ok (.iload_n 3, 1) := by decide +kernel
theorem d_Q_peakOf_32 : decode prog_3_method_6_code 32 = .ok (.iload 4, 2) := by decide +kernel
theorem d_Q_peakOf_34 : decode prog_3_method_6_code 34 = .ok (.invokevirtual 52, 3) := by decide +kernel
theorem d_Q_peakOf_37 : decode prog_3_method_6_code 37 = .ok (.invokestatic 56, 3) := by decide +kernel
theorem d_Q_peakOf_40 : decode prog_3_method_6_code 40 = .ok (.istore_n 2, 1) := by decide +kernel
theorem d_Q_peakOf_41 : decode prog_3_method_6_code 41 = .ok (.aload_n 0, 1) := by decide +kernel
theorem d_Q_peakOf_42 : decode prog_3_method_6_code 42 = .ok (.iload_n 3, 1) := by decide +kernel
theorem d_Q_peakOf_43 : decode prog_3_method_6_code 43 = .ok (.iload 4, 2) := by decide +kernel
theorem d_Q_peakOf_45 : decode prog_3_method_6_code 45 = .ok (.iconst 1, 1) := by decide +kernel
theorem d_Q_peakOf_46 : decode prog_3_method_6_code 46 = .ok (.invokevirtual 76, 3) := by decide +kernel
theorem d_Q_peakOf_49 : decode prog_3_method_6_code 49 = .ok (.iinc 3 1, 3) := by decide +kernel
theorem d_Q_peakOf_52 : decode prog_3_method_6_code 52 = .ok (.goto (-43), 3) := by decide +kernel
theorem d_Q_peakOf_55 : decode prog_3_method_6_code 55 = .ok (.iload_n 2, 1) := by decide +kernel
theorem d_Q_peakOf_56 : decode prog_3_method_6_code 56 = .ok (.ireturn, 1) := by decide +kernel
end
section
theorem ac_int : .arrayClass (newarray.typeOf .int) ∈ wT := wT_m 89 (by decide +kernel) rfl
theorem ac_char : .arrayClass (newarray.typeOf .char) ∈ wT := wT_m 119 (by decide +kernel) rfl
theorem clOk_0 : clOk 0 "FrameTables" fT0 7 t0_ := by
  have h : ∀ w ∈ u_ws "FrameTables" fT0 7, w ∈ lw_tbl ∧ goodWord w = true := by decide +kernel
  exact ⟨rfl, fun w hw => List.mem_filter.mpr (h w hw), by decide +kernel, by decide +kernel⟩
theorem clOk_1 : clOk 1 "FrameTables$Table" fT1 7 t1_ := by
  have h : ∀ w ∈ u_ws "FrameTables$Table" fT1 7, w ∈ lw_tbl ∧ goodWord w = true := by decide +kernel
  exact ⟨rfl, fun w hw => List.mem_filter.mpr (h w hw), by decide +kernel, by decide +kernel⟩
theorem clOk_2 : clOk 2 "FrameTables$Spans" fT2 2 t2_ := by
  have h : ∀ w ∈ u_ws "FrameTables$Spans" fT2 2, w ∈ lw_tbl ∧ goodWord w = true := by decide +kernel
  exact ⟨rfl, fun w hw => List.mem_filter.mpr (h w hw), by decide +kernel, by decide +kernel⟩
theorem clOk_3 : clOk 3 "FrameTables$Text" fT3 3 t3_ := by
  have h : ∀ w ∈ u_ws "FrameTables$Text" fT3 3, w ∈ lw_tbl ∧ goodWord w = true := by decide +kernel
  exact ⟨rfl, fun w hw => List.mem_filter.mpr (h w hw), by decide +kernel, by decide +kernel⟩
theorem clOk_4 : clOk 4 "FrameTables$Parser" fT4 4 t4_ := by
  have h : ∀ w ∈ u_ws "FrameTables$Parser" fT4 4, w ∈ lw_tbl ∧ goodWord w = true := by decide +kernel
  exact ⟨rfl, fun w hw => List.mem_filter.mpr (h w hw), by decide +kernel, by decide +kernel⟩
theorem clOk_5 : clOk 5 "FrameTables$Search" fT5 9 t5_ := by
  have h : ∀ w ∈ u_ws "FrameTables$Search" fT5 9, w ∈ lw_tbl ∧ goodWord w = true := by decide +kernel
  exact ⟨rfl, fun w hw => List.mem_filter.mpr (h w hw), by decide +kernel, by decide +kernel⟩
theorem fl_T_9 : .fieldLink "FrameTables$Table" 9 "FrameTables$Table" (fT1 0).2.1 (fT1 0).2.2.1 ∈ wT := wT_m 67 (by decide +kernel) rfl
theorem fl_T_15 : .fieldLink "FrameTables$Table" 15 "FrameTables$Table" (fT1 1).2.1 (fT1 1).2.2.1 ∈ wT := wT_m 68 (by decide +kernel) rfl
theorem fl_T_18 : .fieldLink "FrameTables$Table" 18 "FrameTables$Table" (fT1 2).2.1 (fT1 2).2.2.1 ∈ wT := wT_m 69 (by decide +kernel) rfl
theorem fl_T_21 : .fieldLink "FrameTables$Table" 21 "FrameTables$Table" (fT1 3).2.1 (fT1 3).2.2.1 ∈ wT := wT_m 70 (by decide +kernel) rfl
theorem fl_T_24 : .fieldLink "FrameTables$Table" 24 "FrameTables$Table" (fT1 4).2.1 (fT1 4).2.2.1 ∈ wT := wT_m 71 (by decide +kernel) rfl
theorem fl_T_27 : .fieldLink "FrameTables$Table" 27 "FrameTables$Table" (fT1 5).2.1 (fT1 5).2.2.1 ∈ wT := wT_m 72 (by decide +kernel) rfl
theorem fl_T_30 : .fieldLink "FrameTables$Table" 30 "FrameTables$Table" (fT1 6).2.1 (fT1 6).2.2.1 ∈ wT := wT_m 73 (by decide +kernel) rfl
theorem fl_S_9 : .fieldLink "FrameTables$Spans" 9 "FrameTables$Spans" (fT2 0).2.1 (fT2 0).2.2.1 ∈ wT := wT_m 96 (by decide +kernel) rfl
theorem fl_S_15 : .fieldLink "FrameTables$Spans" 15 "FrameTables$Spans" (fT2 1).2.1 (fT2 1).2.2.1 ∈ wT := wT_m 97 (by decide +kernel) rfl
theorem fl_X_9 : .fieldLink "FrameTables$Text" 9 "FrameTables$Text" (fT3 0).2.1 (fT3 0).2.2.1 ∈ wT := wT_m 109 (by decide +kernel) rfl
theorem fl_X_15 : .fieldLink "FrameTables$Text" 15 "FrameTables$Text" (fT3 1).2.1 (fT3 1).2.2.1 ∈ wT := wT_m 110 (by decide +kernel) rfl
theorem fl_X_19 : .fieldLink "FrameTables$Text" 19 "FrameTables$Text" (fT3 2).2.1 (fT3 2).2.2.1 ∈ wT := wT_m 111 (by decide +kernel) rfl
theorem fl_P_21 : .fieldLink "FrameTables$Parser" 21 "FrameTables$Parser" (fT4 0).2.1 (fT4 0).2.2.1 ∈ wT := wT_m 126 (by decide +kernel) rfl
theorem fl_P_9 : .fieldLink "FrameTables$Parser" 9 "FrameTables$Parser" (fT4 1).2.1 (fT4 1).2.2.1 ∈ wT := wT_m 127 (by decide +kernel) rfl
theorem fl_P_15 : .fieldLink "FrameTables$Parser" 15 "FrameTables$Parser" (fT4 2).2.1 (fT4 2).2.2.1 ∈ wT := wT_m 128 (by decide +kernel) rfl
theorem fl_P_18 : .fieldLink "FrameTables$Parser" 18 "FrameTables$Parser" (fT4 3).2.1 (fT4 3).2.2.1 ∈ wT := wT_m 129 (by decide +kernel) rfl
theorem fl_Q_9 : .fieldLink "FrameTables$Search" 9 "FrameTables$Search" (fT5 0).2.1 (fT5 0).2.2.1 ∈ wT := wT_m 145 (by decide +kernel) rfl
theorem fl_Q_15 : .fieldLink "FrameTables$Search" 15 "FrameTables$Search" (fT5 1).2.1 (fT5 1).2.2.1 ∈ wT := wT_m 146 (by decide +kernel) rfl
theorem fl_Q_18 : .fieldLink "FrameTables$Search" 18 "FrameTables$Search" (fT5 2).2.1 (fT5 2).2.2.1 ∈ wT := wT_m 147 (by decide +kernel) rfl
theorem fl_Q_21 : .fieldLink "FrameTables$Search" 21 "FrameTables$Search" (fT5 3).2.1 (fT5 3).2.2.1 ∈ wT := wT_m 148 (by decide +kernel) rfl
theorem fl_Q_24 : .fieldLink "FrameTables$Search" 24 "FrameTables$Search" (fT5 4).2.1 (fT5 4).2.2.1 ∈ wT := wT_m 149 (by decide +kernel) rfl
theorem fl_Q_27 : .fieldLink "FrameTables$Search" 27 "FrameTables$Search" (fT5 5).2.1 (fT5 5).2.2.1 ∈ wT := wT_m 150 (by decide +kernel) rfl
theorem fl_Q_30 : .fieldLink "FrameTables$Search" 30 "FrameTables$Search" (fT5 6).2.1 (fT5 6).2.2.1 ∈ wT := wT_m 151 (by decide +kernel) rfl
theorem fl_Q_34 : .fieldLink "FrameTables$Search" 34 "FrameTables$Search" (fT5 7).2.1 (fT5 7).2.2.1 ∈ wT := wT_m 152 (by decide +kernel) rfl
theorem fl_Q_37 : .fieldLink "FrameTables$Search" 37 "FrameTables$Search" (fT5 8).2.1 (fT5 8).2.2.1 ∈ wT := wT_m 153 (by decide +kernel) rfl
theorem fl_F_10 : .fieldLink "FrameTables" 10 "FrameTables" (fT0 0).2.1 (fT0 0).2.2.1 ∈ wT := wT_m 173 (by decide +kernel) rfl
theorem fl_F_16 : .fieldLink "FrameTables" 16 "FrameTables" (fT0 1).2.1 (fT0 1).2.2.1 ∈ wT := wT_m 174 (by decide +kernel) rfl
theorem fl_F_22 : .fieldLink "FrameTables" 22 "FrameTables" (fT0 2).2.1 (fT0 2).2.2.1 ∈ wT := wT_m 175 (by decide +kernel) rfl
theorem fl_F_29 : .fieldLink "FrameTables" 29 "FrameTables" (fT0 3).2.1 (fT0 3).2.2.1 ∈ wT := wT_m 176 (by decide +kernel) rfl
theorem fl_F_38 : .fieldLink "FrameTables" 38 "FrameTables" (fT0 4).2.1 (fT0 4).2.2.1 ∈ wT := wT_m 177 (by decide +kernel) rfl
theorem fl_F_45 : .fieldLink "FrameTables" 45 "FrameTables" (fT0 5).2.1 (fT0 5).2.2.1 ∈ wT := wT_m 178 (by decide +kernel) rfl
theorem fl_F_49 : .fieldLink "FrameTables" 49 "FrameTables" (fT0 6).2.1 (fT0 6).2.2.1 ∈ wT := wT_m 179 (by decide +kernel) rfl
theorem fk_K_38 : .fieldLink "java/lang/String" 38 "java/lang/String" "COMPACT_STRINGS" "Z" ∈ wT := wT_m 447 (by decide +kernel) rfl
theorem fk_K_1053 : .fieldLink "java/lang/String" 1053 "jdk/internal/util/Preconditions" "SIOOBE_FORMATTER" "Ljava/util/function/BiFunction;" ∈ wT := wT_m 463 (by decide +kernel) rfl
theorem fk_K_9 : .fieldLink "java/lang/String" 9 "java/lang/String" "value" "[B" ∈ wT := wT_m 781 (by decide +kernel) rfl
theorem fk_K_15 : .fieldLink "java/lang/String" 15 "java/lang/String" "coder" "B" ∈ wT := wT_m 782 (by decide +kernel) rfl
theorem oi_F : .methodLink "FrameTables" 1 Lib.objectInit ∈ wT ∧ .instanceMethod Lib.objectInit ∈ wT ∧ .code Lib.objectInit ⟨#[0xb1]⟩ 1 none ∈ wT := ⟨wT_m 58 (by decide +kernel) rfl, wT_m 59 (by decide +kernel) rfl, wT_m 60 (by decide +kernel) rfl⟩
theorem oi_T : .methodLink "FrameTables$Table" 3 Lib.objectInit ∈ wT ∧ .instanceMethod Lib.objectInit ∈ wT ∧ .code Lib.objectInit ⟨#[0xb1]⟩ 1 none ∈ wT := ⟨wT_m 66 (by decide +kernel) rfl, wT_m 59 (by decide +kernel) rfl, wT_m 60 (by decide +kernel) rfl⟩
theorem ci_S_init : .instanceMethod y_S_init ∈ wT := (wT_m 93 (by decide +kernel) rfl)
theorem in_S : .initialized "FrameTables$Spans" ∈ wT := (wT_m 43 (by decide +kernel) rfl)
theorem ok_S_init : okc m_S_init 0 := ⟨by decide +kernel, by decide +kernel, by decide +kernel⟩
theorem cw_F_21 : cwi "FrameTables" 21 m_S_init 0 := ⟨wT_m 92 (by decide +kernel) rfl, ci_S_init, in_S, mi_S_init, rfl, ok_S_init⟩
theorem oi_S : .methodLink "FrameTables$Spans" 3 Lib.objectInit ∈ wT ∧ .instanceMethod Lib.objectInit ∈ wT ∧ .code Lib.objectInit ⟨#[0xb1]⟩ 1 none ∈ wT := ⟨wT_m 95 (by decide +kernel) rfl, wT_m 59 (by decide +kernel) rfl, wT_m 60 (by decide +kernel) rfl⟩
theorem oi_X : .methodLink "FrameTables$Text" 3 Lib.objectInit ∈ wT ∧ .instanceMethod Lib.objectInit ∈ wT ∧ .code Lib.objectInit ⟨#[0xb1]⟩ 1 none ∈ wT := ⟨wT_m 108 (by decide +kernel) rfl, wT_m 59 (by decide +kernel) rfl, wT_m 60 (by decide +kernel) rfl⟩
theorem ci_P_init : .instanceMethod y_P_init ∈ wT := (wT_m 123 (by decide +kernel) rfl)
theorem in_P : .initialized "FrameTables$Parser" ∈ wT := (wT_m 45 (by decide +kernel) rfl)
theorem ok_P_init : okc m_P_init 1 := ⟨by decide +kernel, by decide +kernel, by decide +kernel⟩
theorem cw_F_35 : cwi "FrameTables" 35 m_P_init 1 := ⟨wT_m 122 (by decide +kernel) rfl, ci_P_init, in_P, mi_P_init, rfl, ok_P_init⟩
theorem oi_P : .methodLink "FrameTables$Parser" 3 Lib.objectInit ∈ wT ∧ .instanceMethod Lib.objectInit ∈ wT ∧ .code Lib.objectInit ⟨#[0xb1]⟩ 1 none ∈ wT := ⟨wT_m 125 (by decide +kernel) rfl, wT_m 59 (by decide +kernel) rfl, wT_m 60 (by decide +kernel) rfl⟩
theorem oi_Q : .methodLink "FrameTables$Search" 3 Lib.objectInit ∈ wT ∧ .instanceMethod Lib.objectInit ∈ wT ∧ .code Lib.objectInit ⟨#[0xb1]⟩ 1 none ∈ wT := ⟨wT_m 144 (by decide +kernel) rfl, wT_m 59 (by decide +kernel) rfl, wT_m 60 (by decide +kernel) rfl⟩
theorem cs_F_isNode : .static y_F_isNode ∈ wT := (wT_m 200 (by decide +kernel) rfl)
theorem in_F : .initialized "FrameTables" ∈ wT := (wT_m 41 (by decide +kernel) rfl)
theorem ok_F_isNode : okc m_F_isNode 1 := ⟨by decide +kernel, by decide +kernel, by decide +kernel⟩
theorem cw_F_53 : cws "FrameTables" 53 m_F_isNode 1 := ⟨wT_m 199 (by decide +kernel) rfl, cs_F_isNode, in_F, mi_F_isNode, ok_F_isNode⟩
theorem cs_F_isPeriod : .static y_F_isPeriod ∈ wT := (wT_m 203 (by decide +kernel) rfl)
theorem ok_F_isPeriod : okc m_F_isPeriod 1 := ⟨by decide +kernel, by decide +kernel, by decide +kernel⟩
theorem cw_F_57 : cws "FrameTables" 57 m_F_isPeriod 1 := ⟨wT_m 202 (by decide +kernel) rfl, cs_F_isPeriod, in_F, mi_F_isPeriod, ok_F_isPeriod⟩
theorem cs_F_isRank : .static y_F_isRank ∈ wT := (wT_m 206 (by decide +kernel) rfl)
theorem ok_F_isRank : okc m_F_isRank 1 := ⟨by decide +kernel, by decide +kernel, by decide +kernel⟩
theorem cw_F_60 : cws "FrameTables" 60 m_F_isRank 1 := ⟨wT_m 205 (by decide +kernel) rfl, cs_F_isRank, in_F, mi_F_isRank, ok_F_isRank⟩
theorem ci_T_isFull : .instanceMethod y_T_isFull ∈ wT := (wT_m 209 (by decide +kernel) rfl)
theorem ce_T_isFull : .selects "FrameTables$Table" y_T_isFull y_T_isFull ∈ wT := (wT_m 210 (by decide +kernel) rfl)
theorem in_T : .initialized "FrameTables$Table" ∈ wT := (wT_m 42 (by decide +kernel) rfl)
theorem ok_T_isFull : okc m_T_isFull 0 := ⟨by decide +kernel, by decide +kernel, by decide +kernel⟩
theorem cw_F_63 : cwv "FrameTables" 63 m_T_isFull 0 := ⟨wT_m 208 (by decide +kernel) rfl, ci_T_isFull, ce_T_isFull, in_T, mi_T_isFull, ok_T_isFull⟩
theorem ci_T_append : .instanceMethod y_T_append ∈ wT := (wT_m 213 (by decide +kernel) rfl)
theorem ce_T_append : .selects "FrameTables$Table" y_T_append y_T_append ∈ wT := (wT_m 214 (by decide +kernel) rfl)
theorem ok_T_append : okc m_T_append 4 := ⟨by decide +kernel, by decide +kernel, by decide +kernel⟩
theorem cw_F_67 : cwv "FrameTables" 67 m_T_append 4 := ⟨wT_m 212 (by decide +kernel) rfl, ci_T_append, ce_T_append, in_T, mi_T_append, ok_T_append⟩
theorem cw_T_34 : cwv "FrameTables$Table" 34 m_T_isFull 0 := ⟨wT_m 216 (by decide +kernel) rfl, ci_T_isFull, ce_T_isFull, in_T, mi_T_isFull, ok_T_isFull⟩
theorem ci_T_setTimeout : .instanceMethod y_T_setTimeout ∈ wT := (wT_m 218 (by decide +kernel) rfl)
theorem ce_T_setTimeout : .selects "FrameTables$Table" y_T_setTimeout y_T_setTimeout ∈ wT := (wT_m 219 (by decide +kernel) rfl)
theorem ok_T_setTimeout : okc m_T_setTimeout 3 := ⟨by decide +kernel, by decide +kernel, by decide +kernel⟩
theorem cw_T_38 : cwv "FrameTables$Table" 38 m_T_setTimeout 3 := ⟨wT_m 217 (by decide +kernel) rfl, ci_T_setTimeout, ce_T_setTimeout, in_T, mi_T_setTimeout, ok_T_setTimeout⟩
theorem ci_T_has : .instanceMethod y_T_has ∈ wT := (wT_m 226 (by decide +kernel) rfl)
theorem ce_T_has : .selects "FrameTables$Table" y_T_has y_T_has ∈ wT := (wT_m 227 (by decide +kernel) rfl)
theorem ok_T_has : okc m_T_has 1 := ⟨by decide +kernel, by decide +kernel, by decide +kernel⟩
theorem cw_F_71 : cwv "FrameTables" 71 m_T_has 1 := ⟨wT_m 225 (by decide +kernel) rfl, ci_T_has, ce_T_has, in_T, mi_T_has, ok_T_has⟩
theorem ci_T_senderOf : .instanceMethod y_T_senderOf ∈ wT := (wT_m 230 (by decide +kernel) rfl)
theorem ce_T_senderOf : .selects "FrameTables$Table" y_T_senderOf y_T_senderOf ∈ wT := (wT_m 231 (by decide +kernel) rfl)
theorem ok_T_senderOf : okc m_T_senderOf 1 := ⟨by decide +kernel, by decide +kernel, by decide +kernel⟩
theorem cw_F_74 : cwv "FrameTables" 74 m_T_senderOf 1 := ⟨wT_m 229 (by decide +kernel) rfl, ci_T_senderOf, ce_T_senderOf, in_T, mi_T_senderOf, ok_T_senderOf⟩
theorem cw_F_78 : cwv "FrameTables" 78 m_T_setTimeout 3 := ⟨wT_m 233 (by decide +kernel) rfl, ci_T_setTimeout, ce_T_setTimeout, in_T, mi_T_setTimeout, ok_T_setTimeout⟩
theorem ci_T_readersOf : .instanceMethod y_T_readersOf ∈ wT := (wT_m 235 (by decide +kernel) rfl)
theorem ce_T_readersOf : .selects "FrameTables$Table" y_T_readersOf y_T_readersOf ∈ wT := (wT_m 236 (by decide +kernel) rfl)
theorem ok_T_readersOf : okc m_T_readersOf 1 := ⟨by decide +kernel, by decide +kernel, by decide +kernel⟩
theorem cw_F_82 : cwv "FrameTables" 82 m_T_readersOf 1 := ⟨wT_m 234 (by decide +kernel) rfl, ci_T_readersOf, ce_T_readersOf, in_T, mi_T_readersOf, ok_T_readersOf⟩
theorem ci_T_reads : .instanceMethod y_T_reads ∈ wT := (wT_m 239 (by decide +kernel) rfl)
theorem ce_T_reads : .selects "FrameTables$Table" y_T_reads y_T_reads ∈ wT := (wT_m 240 (by decide +kernel) rfl)
theorem ok_T_reads : okc m_T_reads 2 := ⟨by decide +kernel, by decide +kernel, by decide +kernel⟩
theorem cw_T_46 : cwv "FrameTables$Table" 46 m_T_reads 2 := ⟨wT_m 238 (by decide +kernel) rfl, ci_T_reads, ce_T_reads, in_T, mi_T_reads, ok_T_reads⟩
theorem ci_T_timeoutOf : .instanceMethod y_T_timeoutOf ∈ wT := (wT_m 243 (by decide +kernel) rfl)
theorem ce_T_timeoutOf : .selects "FrameTables$Table" y_T_timeoutOf y_T_timeoutOf ∈ wT := (wT_m 244 (by decide +kernel) rfl)
theorem ok_T_timeoutOf : okc m_T_timeoutOf 2 := ⟨by decide +kernel, by decide +kernel, by decide +kernel⟩
theorem cw_T_42 : cwv "FrameTables$Table" 42 m_T_timeoutOf 2 := ⟨wT_m 242 (by decide +kernel) rfl, ci_T_timeoutOf, ce_T_timeoutOf, in_T, mi_T_timeoutOf, ok_T_timeoutOf⟩
theorem ci_F_identifierOf : .instanceMethod y_F_identifierOf ∈ wT := (wT_m 252 (by decide +kernel) rfl)
theorem ce_F_identifierOf : .selects "FrameTables" y_F_identifierOf y_F_identifierOf ∈ wT := wT_m 0 (by decide +kernel) rfl
theorem ok_F_identifierOf : okc m_F_identifierOf 1 := ⟨by decide +kernel, by decide +kernel, by decide +kernel⟩
theorem cw_F_85 : cwv "FrameTables" 85 m_F_identifierOf 1 := ⟨wT_m 250 (by decide +kernel) rfl, ci_F_identifierOf, ce_F_identifierOf, in_F, mi_F_identifierOf, ok_F_identifierOf⟩
theorem ci_T_kindOf : .instanceMethod y_T_kindOf ∈ wT := (wT_m 255 (by decide +kernel) rfl)
theorem ce_T_kindOf : .selects "FrameTables$Table" y_T_kindOf y_T_kindOf ∈ wT := (wT_m 256 (by decide +kernel) rfl)
theorem ok_T_kindOf : okc m_T_kindOf 1 := ⟨by decide +kernel, by decide +kernel, by decide +kernel⟩
theorem cw_F_161 : cwv "FrameTables" 161 m_T_kindOf 1 := ⟨wT_m 254 (by decide +kernel) rfl, ci_T_kindOf, ce_T_kindOf, in_T, mi_T_kindOf, ok_T_kindOf⟩
theorem ci_T_placeInKind : .instanceMethod y_T_placeInKind ∈ wT := (wT_m 259 (by decide +kernel) rfl)
theorem ce_T_placeInKind : .selects "FrameTables$Table" y_T_placeInKind y_T_placeInKind ∈ wT := (wT_m 260 (by decide +kernel) rfl)
theorem ok_T_placeInKind : okc m_T_placeInKind 1 := ⟨by decide +kernel, by decide +kernel, by decide +kernel⟩
theorem cw_F_164 : cwv "FrameTables" 164 m_T_placeInKind 1 := ⟨wT_m 258 (by decide +kernel) rfl, ci_T_placeInKind, ce_T_placeInKind, in_T, mi_T_placeInKind, ok_T_placeInKind⟩
theorem cw_T_50 : cwv "FrameTables$Table" 50 m_T_kindOf 1 := ⟨wT_m 262 (by decide +kernel) rfl, ci_T_kindOf, ce_T_kindOf, in_T, mi_T_kindOf, ok_T_kindOf⟩
theorem ci_T_comesBefore : .instanceMethod y_T_comesBefore ∈ wT := (wT_m 265 (by decide +kernel) rfl)
theorem ce_T_comesBefore : .selects "FrameTables$Table" y_T_comesBefore y_T_comesBefore ∈ wT := wT_m 1 (by decide +kernel) rfl
theorem ok_T_comesBefore : okc m_T_comesBefore 2 := ⟨by decide +kernel, by decide +kernel, by decide +kernel⟩
theorem cw_T_54 : cwv "FrameTables$Table" 54 m_T_comesBefore 2 := ⟨wT_m 263 (by decide +kernel) rfl, ci_T_comesBefore, ce_T_comesBefore, in_T, mi_T_comesBefore, ok_T_comesBefore⟩
theorem ci_S_identifierAt : .instanceMethod y_S_identifierAt ∈ wT := (wT_m 268 (by decide +kernel) rfl)
theorem ce_S_identifierAt : .selects "FrameTables$Spans" y_S_identifierAt y_S_identifierAt ∈ wT := (wT_m 269 (by decide +kernel) rfl)
theorem ok_S_identifierAt : okc m_S_identifierAt 2 := ⟨by decide +kernel, by decide +kernel, by decide +kernel⟩
theorem cw_F_167 : cwv "FrameTables" 167 m_S_identifierAt 2 := ⟨wT_m 267 (by decide +kernel) rfl, ci_S_identifierAt, ce_S_identifierAt, in_S, mi_S_identifierAt, ok_S_identifierAt⟩
theorem cs_F_isIdentifier : .static y_F_isIdentifier ∈ wT := (wT_m 276 (by decide +kernel) rfl)
theorem ok_F_isIdentifier : okc m_F_isIdentifier 1 := ⟨by decide +kernel, by decide +kernel, by decide +kernel⟩
theorem cw_F_88 : cws "FrameTables" 88 m_F_isIdentifier 1 := ⟨wT_m 275 (by decide +kernel) rfl, cs_F_isIdentifier, in_F, mi_F_isIdentifier, ok_F_isIdentifier⟩
theorem ci_S_meetAnother : .instanceMethod y_S_meetAnother ∈ wT := (wT_m 279 (by decide +kernel) rfl)
theorem ce_S_meetAnother : .selects "FrameTables$Spans" y_S_meetAnother y_S_meetAnother ∈ wT := (wT_m 280 (by decide +kernel) rfl)
theorem ok_S_meetAnother : okc m_S_meetAnother 3 := ⟨by decide +kernel, by decide +kernel, by decide +kernel⟩
theorem cw_F_91 : cwv "FrameTables" 91 m_S_meetAnother 3 := ⟨wT_m 278 (by decide +kernel) rfl, ci_S_meetAnother, ce_S_meetAnother, in_S, mi_S_meetAnother, ok_S_meetAnother⟩
theorem ci_S_set : .instanceMethod y_S_set ∈ wT := (wT_m 283 (by decide +kernel) rfl)
theorem ce_S_set : .selects "FrameTables$Spans" y_S_set y_S_set ∈ wT := (wT_m 284 (by decide +kernel) rfl)
theorem ok_S_set : okc m_S_set 3 := ⟨by decide +kernel, by decide +kernel, by decide +kernel⟩
theorem cw_F_95 : cwv "FrameTables" 95 m_S_set 3 := ⟨wT_m 282 (by decide +kernel) rfl, ci_S_set, ce_S_set, in_S, mi_S_set, ok_S_set⟩
theorem ci_Q_begin : .instanceMethod y_Q_begin ∈ wT := (wT_m 292 (by decide +kernel) rfl)
theorem ce_Q_begin : .selects "FrameTables$Search" y_Q_begin y_Q_begin ∈ wT := (wT_m 293 (by decide +kernel) rfl)
theorem in_Q : .initialized "FrameTables$Search" ∈ wT := (wT_m 46 (by decide +kernel) rfl)
theorem ok_Q_begin : okc m_Q_begin 1 := ⟨by decide +kernel, by decide +kernel, by decide +kernel⟩
theorem cw_F_100 : cwv "FrameTables" 100 m_Q_begin 1 := ⟨wT_m 291 (by decide +kernel) rfl, ci_Q_begin, ce_Q_begin, in_Q, mi_Q_begin, ok_Q_begin⟩
theorem ci_Q_lay : .instanceMethod y_Q_lay ∈ wT := (wT_m 297 (by decide +kernel) rfl)
theorem ce_Q_lay : .selects "FrameTables$Search" y_Q_lay y_Q_lay ∈ wT := wT_m 2 (by decide +kernel) rfl
theorem ok_Q_lay : okc m_Q_lay 1 := ⟨by decide +kernel, by decide +kernel, by decide +kernel⟩
theorem cw_Q_40 : cwv "FrameTables$Search" 40 m_Q_lay 1 := ⟨wT_m 295 (by decide +kernel) rfl, ci_Q_lay, ce_Q_lay, in_Q, mi_Q_lay, ok_Q_lay⟩
theorem ci_T_size : .instanceMethod y_T_size ∈ wT := (wT_m 300 (by decide +kernel) rfl)
theorem ce_T_size : .selects "FrameTables$Table" y_T_size y_T_size ∈ wT := (wT_m 301 (by decide +kernel) rfl)
theorem ok_T_size : okc m_T_size 0 := ⟨by decide +kernel, by decide +kernel, by decide +kernel⟩
theorem cw_Q_80 : cwv "FrameTables$Search" 80 m_T_size 0 := ⟨wT_m 299 (by decide +kernel) rfl, ci_T_size, ce_T_size, in_T, mi_T_size, ok_T_size⟩
theorem ci_T_periodOf : .instanceMethod y_T_periodOf ∈ wT := (wT_m 304 (by decide +kernel) rfl)
theorem ce_T_periodOf : .selects "FrameTables$Table" y_T_periodOf y_T_periodOf ∈ wT := (wT_m 305 (by decide +kernel) rfl)
theorem ok_T_periodOf : okc m_T_periodOf 1 := ⟨by decide +kernel, by decide +kernel, by decide +kernel⟩
theorem cw_Q_84 : cwv "FrameTables$Search" 84 m_T_periodOf 1 := ⟨wT_m 303 (by decide +kernel) rfl, ci_T_periodOf, ce_T_periodOf, in_T, mi_T_periodOf, ok_T_periodOf⟩
theorem ci_Q_enter : .instanceMethod y_Q_enter ∈ wT := (wT_m 309 (by decide +kernel) rfl)
theorem ce_Q_enter : .selects "FrameTables$Search" y_Q_enter y_Q_enter ∈ wT := wT_m 3 (by decide +kernel) rfl
theorem ok_Q_enter : okc m_Q_enter 2 := ⟨by decide +kernel, by decide +kernel, by decide +kernel⟩
theorem cw_Q_44 : cwv "FrameTables$Search" 44 m_Q_enter 2 := ⟨wT_m 307 (by decide +kernel) rfl, ci_Q_enter, ce_Q_enter, in_Q, mi_Q_enter, ok_Q_enter⟩
theorem ci_Q_isOver : .instanceMethod y_Q_isOver ∈ wT := (wT_m 312 (by decide +kernel) rfl)
theorem ce_Q_isOver : .selects "FrameTables$Search" y_Q_isOver y_Q_isOver ∈ wT := (wT_m 313 (by decide +kernel) rfl)
theorem ok_Q_isOver : okc m_Q_isOver 0 := ⟨by decide +kernel, by decide +kernel, by decide +kernel⟩
theorem cw_F_104 : cwv "FrameTables" 104 m_Q_isOver 0 := ⟨wT_m 311 (by decide +kernel) rfl, ci_Q_isOver, ce_Q_isOver, in_Q, mi_Q_isOver, ok_Q_isOver⟩
theorem ci_Q_step : .instanceMethod y_Q_step ∈ wT := (wT_m 316 (by decide +kernel) rfl)
theorem ce_Q_step : .selects "FrameTables$Search" y_Q_step y_Q_step ∈ wT := (wT_m 317 (by decide +kernel) rfl)
theorem ok_Q_step : okc m_Q_step 0 := ⟨by decide +kernel, by decide +kernel, by decide +kernel⟩
theorem cw_F_107 : cwv "FrameTables" 107 m_Q_step 0 := ⟨wT_m 315 (by decide +kernel) rfl, ci_Q_step, ce_Q_step, in_Q, mi_Q_step, ok_Q_step⟩
theorem cw_Q_48 : cwv "FrameTables$Search" 48 m_Q_isOver 0 := ⟨wT_m 319 (by decide +kernel) rfl, ci_Q_isOver, ce_Q_isOver, in_Q, mi_Q_isOver, ok_Q_isOver⟩
theorem ci_Q_mostBeginsWith : .instanceMethod y_Q_mostBeginsWith ∈ wT := (wT_m 322 (by decide +kernel) rfl)
theorem ce_Q_mostBeginsWith : .selects "FrameTables$Search" y_Q_mostBeginsWith y_Q_mostBeginsWith ∈ wT := wT_m 4 (by decide +kernel) rfl
theorem ok_Q_mostBeginsWith : okc m_Q_mostBeginsWith 2 := ⟨by decide +kernel, by decide +kernel, by decide +kernel⟩
theorem cw_Q_52 : cwv "FrameTables$Search" 52 m_Q_mostBeginsWith 2 := ⟨wT_m 320 (by decide +kernel) rfl, ci_Q_mostBeginsWith, ce_Q_mostBeginsWith, in_Q, mi_Q_mostBeginsWith, ok_Q_mostBeginsWith⟩
theorem mm_Q : .methodLink "FrameTables$Search" 56 Lib.Math.max.name ∈ wT ∧ .static Lib.Math.max.name ∈ wT ∧ .initialized "java/lang/Math" ∈ wT ∧ .code Lib.Math.max.name Lib.Math.max.code 2 (some .int) ∈ wT := ⟨wT_m 324 (by decide +kernel) rfl, wT_m 325 (by decide +kernel) rfl, wT_m 48 (by decide +kernel) rfl, wT_m 326 (by decide +kernel) rfl⟩
theorem ci_Q_goOn : .instanceMethod y_Q_goOn ∈ wT := (wT_m 329 (by decide +kernel) rfl)
theorem ce_Q_goOn : .selects "FrameTables$Search" y_Q_goOn y_Q_goOn ∈ wT := wT_m 5 (by decide +kernel) rfl
theorem ok_Q_goOn : okc m_Q_goOn 2 := ⟨by decide +kernel, by decide +kernel, by decide +kernel⟩
theorem cw_Q_61 : cwv "FrameTables$Search" 61 m_Q_goOn 2 := ⟨wT_m 327 (by decide +kernel) rfl, ci_Q_goOn, ce_Q_goOn, in_Q, mi_Q_goOn, ok_Q_goOn⟩
theorem ci_Q_addBegins : .instanceMethod y_Q_addBegins ∈ wT := (wT_m 333 (by decide +kernel) rfl)
theorem ce_Q_addBegins : .selects "FrameTables$Search" y_Q_addBegins y_Q_addBegins ∈ wT := wT_m 6 (by decide +kernel) rfl
theorem ok_Q_addBegins : okc m_Q_addBegins 3 := ⟨by decide +kernel, by decide +kernel, by decide +kernel⟩
theorem cw_Q_76 : cwv "FrameTables$Search" 76 m_Q_addBegins 3 := ⟨wT_m 331 (by decide +kernel) rfl, ci_Q_addBegins, ce_Q_addBegins, in_Q, mi_Q_addBegins, ok_Q_addBegins⟩
theorem ci_Q_keepRow : .instanceMethod y_Q_keepRow ∈ wT := (wT_m 337 (by decide +kernel) rfl)
theorem ce_Q_keepRow : .selects "FrameTables$Search" y_Q_keepRow y_Q_keepRow ∈ wT := wT_m 7 (by decide +kernel) rfl
theorem ok_Q_keepRow : okc m_Q_keepRow 1 := ⟨by decide +kernel, by decide +kernel, by decide +kernel⟩
theorem cw_Q_87 : cwv "FrameTables$Search" 87 m_Q_keepRow 1 := ⟨wT_m 335 (by decide +kernel) rfl, ci_Q_keepRow, ce_Q_keepRow, in_Q, mi_Q_keepRow, ok_Q_keepRow⟩
theorem ci_Q_leaveClosedPlaces : .instanceMethod y_Q_leaveClosedPlaces ∈ wT := (wT_m 341 (by decide +kernel) rfl)
theorem ce_Q_leaveClosedPlaces : .selects "FrameTables$Search" y_Q_leaveClosedPlaces y_Q_leaveClosedPlaces ∈ wT := wT_m 8 (by decide +kernel) rfl
theorem ok_Q_leaveClosedPlaces : okc m_Q_leaveClosedPlaces 0 := ⟨by decide +kernel, by decide +kernel, by decide +kernel⟩
theorem cw_Q_64 : cwv "FrameTables$Search" 64 m_Q_leaveClosedPlaces 0 := ⟨wT_m 339 (by decide +kernel) rfl, ci_Q_leaveClosedPlaces, ce_Q_leaveClosedPlaces, in_Q, mi_Q_leaveClosedPlaces, ok_Q_leaveClosedPlaces⟩
theorem ci_Q_isClosed : .instanceMethod y_Q_isClosed ∈ wT := (wT_m 345 (by decide +kernel) rfl)
theorem ce_Q_isClosed : .selects "FrameTables$Search" y_Q_isClosed y_Q_isClosed ∈ wT := wT_m 9 (by decide +kernel) rfl
theorem ok_Q_isClosed : okc m_Q_isClosed 1 := ⟨by decide +kernel, by decide +kernel, by decide +kernel⟩
theorem cw_Q_91 : cwv "FrameTables$Search" 91 m_Q_isClosed 1 := ⟨wT_m 343 (by decide +kernel) rfl, ci_Q_isClosed, ce_Q_isClosed, in_Q, mi_Q_isClosed, ok_Q_isClosed⟩
theorem ci_Q_giveBestRowTo : .instanceMethod y_Q_giveBestRowTo ∈ wT := (wT_m 348 (by decide +kernel) rfl)
theorem ce_Q_giveBestRowTo : .selects "FrameTables$Search" y_Q_giveBestRowTo y_Q_giveBestRowTo ∈ wT := (wT_m 349 (by decide +kernel) rfl)
theorem ok_Q_giveBestRowTo : okc m_Q_giveBestRowTo 1 := ⟨by decide +kernel, by decide +kernel, by decide +kernel⟩
theorem cw_F_110 : cwv "FrameTables" 110 m_Q_giveBestRowTo 1 := ⟨wT_m 347 (by decide +kernel) rfl, ci_Q_giveBestRowTo, ce_Q_giveBestRowTo, in_Q, mi_Q_giveBestRowTo, ok_Q_giveBestRowTo⟩
theorem ci_T_setOffset : .instanceMethod y_T_setOffset ∈ wT := (wT_m 352 (by decide +kernel) rfl)
theorem ce_T_setOffset : .selects "FrameTables$Table" y_T_setOffset y_T_setOffset ∈ wT := (wT_m 353 (by decide +kernel) rfl)
theorem ok_T_setOffset : okc m_T_setOffset 2 := ⟨by decide +kernel, by decide +kernel, by decide +kernel⟩
theorem cw_Q_67 : cwv "FrameTables$Search" 67 m_T_setOffset 2 := ⟨wT_m 351 (by decide +kernel) rfl, ci_T_setOffset, ce_T_setOffset, in_T, mi_T_setOffset, ok_T_setOffset⟩
theorem ci_Q_peakOf : .instanceMethod y_Q_peakOf ∈ wT := (wT_m 356 (by decide +kernel) rfl)
theorem ce_Q_peakOf : .selects "FrameTables$Search" y_Q_peakOf y_Q_peakOf ∈ wT := (wT_m 357 (by decide +kernel) rfl)
theorem ok_Q_peakOf : okc m_Q_peakOf 1 := ⟨by decide +kernel, by decide +kernel, by decide +kernel⟩
theorem cw_F_113 : cwv "FrameTables" 113 m_Q_peakOf 1 := ⟨wT_m 355 (by decide +kernel) rfl, ci_Q_peakOf, ce_Q_peakOf, in_Q, mi_Q_peakOf, ok_Q_peakOf⟩
theorem ci_T_offsetOf : .instanceMethod y_T_offsetOf ∈ wT := (wT_m 360 (by decide +kernel) rfl)
theorem ce_T_offsetOf : .selects "FrameTables$Table" y_T_offsetOf y_T_offsetOf ∈ wT := (wT_m 361 (by decide +kernel) rfl)
theorem ok_T_offsetOf : okc m_T_offsetOf 1 := ⟨by decide +kernel, by decide +kernel, by decide +kernel⟩
theorem cw_Q_72 : cwv "FrameTables$Search" 72 m_T_offsetOf 1 := ⟨wT_m 359 (by decide +kernel) rfl, ci_T_offsetOf, ce_T_offsetOf, in_T, mi_T_offsetOf, ok_T_offsetOf⟩
theorem cw_F_117 : cwv "FrameTables" 117 m_T_offsetOf 1 := ⟨wT_m 367 (by decide +kernel) rfl, ci_T_offsetOf, ce_T_offsetOf, in_T, mi_T_offsetOf, ok_T_offsetOf⟩
theorem cw_F_120 : cwv "FrameTables" 120 m_T_periodOf 1 := ⟨wT_m 376 (by decide +kernel) rfl, ci_T_periodOf, ce_T_periodOf, in_T, mi_T_periodOf, ok_T_periodOf⟩
theorem ci_T_setGap : .instanceMethod y_T_setGap ∈ wT := (wT_m 378 (by decide +kernel) rfl)
theorem ce_T_setGap : .selects "FrameTables$Table" y_T_setGap y_T_setGap ∈ wT := (wT_m 379 (by decide +kernel) rfl)
theorem ok_T_setGap : okc m_T_setGap 2 := ⟨by decide +kernel, by decide +kernel, by decide +kernel⟩
theorem cw_F_123 : cwv "FrameTables" 123 m_T_setGap 2 := ⟨wT_m 377 (by decide +kernel) rfl, ci_T_setGap, ce_T_setGap, in_T, mi_T_setGap, ok_T_setGap⟩
theorem cw_F_127 : cwv "FrameTables" 127 m_T_size 0 := ⟨wT_m 385 (by decide +kernel) rfl, ci_T_size, ce_T_size, in_T, mi_T_size, ok_T_size⟩
theorem ci_F_breaks : .instanceMethod y_F_breaks ∈ wT := (wT_m 388 (by decide +kernel) rfl)
theorem ce_F_breaks : .selects "FrameTables" y_F_breaks y_F_breaks ∈ wT := wT_m 10 (by decide +kernel) rfl
theorem ok_F_breaks : okc m_F_breaks 2 := ⟨by decide +kernel, by decide +kernel, by decide +kernel⟩
theorem cw_F_131 : cwv "FrameTables" 131 m_F_breaks 2 := ⟨wT_m 386 (by decide +kernel) rfl, ci_F_breaks, ce_F_breaks, in_F, mi_F_breaks, ok_F_breaks⟩
theorem ci_T_hasShortTimeout : .instanceMethod y_T_hasShortTimeout ∈ wT := (wT_m 391 (by decide +kernel) rfl)
theorem ce_T_hasShortTimeout : .selects "FrameTables$Table" y_T_hasShortTimeout y_T_hasShortTimeout ∈ wT := (wT_m 392 (by decide +kernel) rfl)
theorem ok_T_hasShortTimeout : okc m_T_hasShortTimeout 1 := ⟨by decide +kernel, by decide +kernel, by decide +kernel⟩
theorem cw_F_171 : cwv "FrameTables" 171 m_T_hasShortTimeout 1 := ⟨wT_m 390 (by decide +kernel) rfl, ci_T_hasShortTimeout, ce_T_hasShortTimeout, in_T, mi_T_hasShortTimeout, ok_T_hasShortTimeout⟩
theorem ci_T_repeatsAnEarlierOne : .instanceMethod y_T_repeatsAnEarlierOne ∈ wT := (wT_m 395 (by decide +kernel) rfl)
theorem ce_T_repeatsAnEarlierOne : .selects "FrameTables$Table" y_T_repeatsAnEarlierOne y_T_repeatsAnEarlierOne ∈ wT := (wT_m 396 (by decide +kernel) rfl)
theorem ok_T_repeatsAnEarlierOne : okc m_T_repeatsAnEarlierOne 1 := ⟨by decide +kernel, by decide +kernel, by decide +kernel⟩
theorem cw_F_174 : cwv "FrameTables" 174 m_T_repeatsAnEarlierOne 1 := ⟨wT_m 394 (by decide +kernel) rfl, ci_T_repeatsAnEarlierOne, ce_T_repeatsAnEarlierOne, in_T, mi_T_repeatsAnEarlierOne, ok_T_repeatsAnEarlierOne⟩
theorem ci_X_add : .instanceMethod y_X_add ∈ wT := (wT_m 403 (by decide +kernel) rfl)
theorem ce_X_add : .selects "FrameTables$Text" y_X_add y_X_add ∈ wT := (wT_m 404 (by decide +kernel) rfl)
theorem in_X : .initialized "FrameTables$Text" ∈ wT := (wT_m 44 (by decide +kernel) rfl)
theorem ok_X_add : okc m_X_add 1 := ⟨by decide +kernel, by decide +kernel, by decide +kernel⟩
theorem cw_F_135 : cwv "FrameTables" 135 m_X_add 1 := ⟨wT_m 402 (by decide +kernel) rfl, ci_X_add, ce_X_add, in_X, mi_X_add, ok_X_add⟩
theorem ci_P_fill : .instanceMethod y_P_fill ∈ wT := (wT_m 411 (by decide +kernel) rfl)
theorem ce_P_fill : .selects "FrameTables$Parser" y_P_fill y_P_fill ∈ wT := (wT_m 412 (by decide +kernel) rfl)
theorem ok_P_fill : okc m_P_fill 1 := ⟨by decide +kernel, by decide +kernel, by decide +kernel⟩
theorem cw_F_139 : cwv "FrameTables" 139 m_P_fill 1 := ⟨wT_m 410 (by decide +kernel) rfl, ci_P_fill, ce_P_fill, in_P, mi_P_fill, ok_P_fill⟩
theorem ci_T_clear : .instanceMethod y_T_clear ∈ wT := (wT_m 415 (by decide +kernel) rfl)
theorem ce_T_clear : .selects "FrameTables$Table" y_T_clear y_T_clear ∈ wT := (wT_m 416 (by decide +kernel) rfl)
theorem ok_T_clear : okc m_T_clear 0 := ⟨by decide +kernel, by decide +kernel, by decide +kernel⟩
theorem cw_P_25 : cwv "FrameTables$Parser" 25 m_T_clear 0 := ⟨wT_m 414 (by decide +kernel) rfl, ci_T_clear, ce_T_clear, in_T, mi_T_clear, ok_T_clear⟩
theorem ci_X_length : .instanceMethod y_X_length ∈ wT := (wT_m 419 (by decide +kernel) rfl)
theorem ce_X_length : .selects "FrameTables$Text" y_X_length y_X_length ∈ wT := (wT_m 420 (by decide +kernel) rfl)
theorem ok_X_length : okc m_X_length 0 := ⟨by decide +kernel, by decide +kernel, by decide +kernel⟩
theorem cw_P_30 : cwv "FrameTables$Parser" 30 m_X_length 0 := ⟨wT_m 418 (by decide +kernel) rfl, ci_X_length, ce_X_length, in_X, mi_X_length, ok_X_length⟩
theorem ci_X_signAt : .instanceMethod y_X_signAt ∈ wT := (wT_m 423 (by decide +kernel) rfl)
theorem ce_X_signAt : .selects "FrameTables$Text" y_X_signAt y_X_signAt ∈ wT := (wT_m 424 (by decide +kernel) rfl)
theorem ok_X_signAt : okc m_X_signAt 1 := ⟨by decide +kernel, by decide +kernel, by decide +kernel⟩
theorem cw_P_36 : cwv "FrameTables$Parser" 36 m_X_signAt 1 := ⟨wT_m 422 (by decide +kernel) rfl, ci_X_signAt, ce_X_signAt, in_X, mi_X_signAt, ok_X_signAt⟩
theorem ci_P_takeLine : .instanceMethod y_P_takeLine ∈ wT := (wT_m 428 (by decide +kernel) rfl)
theorem ce_P_takeLine : .selects "FrameTables$Parser" y_P_takeLine y_P_takeLine ∈ wT := wT_m 11 (by decide +kernel) rfl
theorem ok_P_takeLine : okc m_P_takeLine 3 := ⟨by decide +kernel, by decide +kernel, by decide +kernel⟩
theorem cw_P_40 : cwv "FrameTables$Parser" 40 m_P_takeLine 3 := ⟨wT_m 426 (by decide +kernel) rfl, ci_P_takeLine, ce_P_takeLine, in_P, mi_P_takeLine, ok_P_takeLine⟩
theorem ci_P_nextWord : .instanceMethod y_P_nextWord ∈ wT := (wT_m 432 (by decide +kernel) rfl)
theorem ce_P_nextWord : .selects "FrameTables$Parser" y_P_nextWord y_P_nextWord ∈ wT := wT_m 12 (by decide +kernel) rfl
theorem ok_P_nextWord : okc m_P_nextWord 0 := ⟨by decide +kernel, by decide +kernel, by decide +kernel⟩
theorem cw_P_44 : cwv "FrameTables$Parser" 44 m_P_nextWord 0 := ⟨wT_m 430 (by decide +kernel) rfl, ci_P_nextWord, ce_P_nextWord, in_P, mi_P_nextWord, ok_P_nextWord⟩
theorem ci_P_wordIs : .instanceMethod y_P_wordIs ∈ wT := (wT_m 437 (by decide +kernel) rfl)
theorem ce_P_wordIs : .selects "FrameTables$Parser" y_P_wordIs y_P_wordIs ∈ wT := wT_m 13 (by decide +kernel) rfl
theorem ok_P_wordIs : okc m_P_wordIs 1 := ⟨by decide +kernel, by decide +kernel, by decide +kernel⟩
theorem cw_P_50 : cwv "FrameTables$Parser" 50 m_P_wordIs 1 := ⟨wT_m 435 (by decide +kernel) rfl, ci_P_wordIs, ce_P_wordIs, in_P, mi_P_wordIs, ok_P_wordIs⟩
theorem ci_K_length : .instanceMethod y_K_length ∈ wT := (wT_m 440 (by decide +kernel) rfl)
theorem ce_K_length : .selects "java/lang/String" y_K_length y_K_length ∈ wT := (wT_m 441 (by decide +kernel) rfl)
theorem in_K : .initialized "java/lang/String" ∈ wT := (wT_m 49 (by decide +kernel) rfl)
theorem ok_K_length : okc m_K_length 0 := ⟨by decide +kernel, by decide +kernel, by decide +kernel⟩
theorem cw_P_97 : cwv "FrameTables$Parser" 97 m_K_length 0 := ⟨wT_m 439 (by decide +kernel) rfl, ci_K_length, ce_K_length, in_K, mi_K_length, ok_K_length⟩
theorem ci_K_coder : .instanceMethod y_K_coder ∈ wT := (wT_m 444 (by decide +kernel) rfl)
theorem ce_K_coder : .selects "java/lang/String" y_K_coder y_K_coder ∈ wT := (wT_m 445 (by decide +kernel) rfl)
theorem ok_K_coder : okc m_K_coder 0 := ⟨by decide +kernel, by decide +kernel, by decide +kernel⟩
theorem cw_K_335 : cwv "java/lang/String" 335 m_K_coder 0 := ⟨wT_m 443 (by decide +kernel) rfl, ci_K_coder, ce_K_coder, in_K, mi_K_coder, ok_K_coder⟩
theorem ci_K_charAt : .instanceMethod y_K_charAt ∈ wT := (wT_m 450 (by decide +kernel) rfl)
theorem ce_K_charAt : .selects "java/lang/String" y_K_charAt y_K_charAt ∈ wT := (wT_m 451 (by decide +kernel) rfl)
theorem ok_K_charAt : okc m_K_charAt 1 := ⟨by decide +kernel, by decide +kernel, by decide +kernel⟩
theorem cw_P_100 : cwv "FrameTables$Parser" 100 m_K_charAt 1 := ⟨wT_m 449 (by decide +kernel) rfl, ci_K_charAt, ce_K_charAt, in_K, mi_K_charAt, ok_K_charAt⟩
theorem ci_K_isLatin1 : .instanceMethod y_K_isLatin1 ∈ wT := (wT_m 454 (by decide +kernel) rfl)
theorem ce_K_isLatin1 : .selects "java/lang/String" y_K_isLatin1 y_K_isLatin1 ∈ wT := (wT_m 455 (by decide +kernel) rfl)
theorem ok_K_isLatin1 : okc m_K_isLatin1 0 := ⟨by decide +kernel, by decide +kernel, by decide +kernel⟩
theorem cw_K_492 : cwv "java/lang/String" 492 m_K_isLatin1 0 := ⟨wT_m 453 (by decide +kernel) rfl, ci_K_isLatin1, ce_K_isLatin1, in_K, mi_K_isLatin1, ok_K_isLatin1⟩
theorem cs_L_charAt : .static y_L_charAt ∈ wT := (wT_m 458 (by decide +kernel) rfl)
theorem in_L : .initialized "java/lang/StringLatin1" ∈ wT := (wT_m 50 (by decide +kernel) rfl)
theorem ok_L_charAt : okc m_L_charAt 2 := ⟨by decide +kernel, by decide +kernel, by decide +kernel⟩
theorem cw_K_495 : cws "java/lang/String" 495 m_L_charAt 2 := ⟨wT_m 457 (by decide +kernel) rfl, cs_L_charAt, in_L, mi_L_charAt, ok_L_charAt⟩
theorem cs_K_checkIndex : .static y_K_checkIndex ∈ wT := (wT_m 461 (by decide +kernel) rfl)
theorem ok_K_checkIndex : okc m_K_checkIndex 2 := ⟨by decide +kernel, by decide +kernel, by decide +kernel⟩
theorem cw_L_9 : cws "java/lang/StringLatin1" 9 m_K_checkIndex 2 := ⟨wT_m 460 (by decide +kernel) rfl, cs_K_checkIndex, in_K, mi_K_checkIndex, ok_K_checkIndex⟩
theorem cs_J_checkIndex : .static y_J_checkIndex ∈ wT := (wT_m 466 (by decide +kernel) rfl)
theorem in_J : .initialized "jdk/internal/util/Preconditions" ∈ wT := (wT_m 51 (by decide +kernel) rfl)
theorem ok_J_checkIndex : okc m_J_checkIndex 3 := ⟨by decide +kernel, by decide +kernel, by decide +kernel⟩
theorem cw_K_1059 : cws "java/lang/String" 1059 m_J_checkIndex 3 := ⟨wT_m 465 (by decide +kernel) rfl, cs_J_checkIndex, in_J, mi_J_checkIndex, ok_J_checkIndex⟩
theorem ci_P_takeFrame : .instanceMethod y_P_takeFrame ∈ wT := (wT_m 489 (by decide +kernel) rfl)
theorem ce_P_takeFrame : .selects "FrameTables$Parser" y_P_takeFrame y_P_takeFrame ∈ wT := wT_m 14 (by decide +kernel) rfl
theorem ok_P_takeFrame : okc m_P_takeFrame 1 := ⟨by decide +kernel, by decide +kernel, by decide +kernel⟩
theorem cw_P_54 : cwv "FrameTables$Parser" 54 m_P_takeFrame 1 := ⟨wT_m 487 (by decide +kernel) rfl, ci_P_takeFrame, ce_P_takeFrame, in_P, mi_P_takeFrame, ok_P_takeFrame⟩
theorem ci_P_nextNumber : .instanceMethod y_P_nextNumber ∈ wT := (wT_m 493 (by decide +kernel) rfl)
theorem ce_P_nextNumber : .selects "FrameTables$Parser" y_P_nextNumber y_P_nextNumber ∈ wT := wT_m 15 (by decide +kernel) rfl
theorem ok_P_nextNumber : okc m_P_nextNumber 0 := ⟨by decide +kernel, by decide +kernel, by decide +kernel⟩
theorem cw_P_61 : cwv "FrameTables$Parser" 61 m_P_nextNumber 0 := ⟨wT_m 491 (by decide +kernel) rfl, ci_P_nextNumber, ce_P_nextNumber, in_P, mi_P_nextNumber, ok_P_nextNumber⟩
theorem cw_P_74 : cwv "FrameTables$Parser" 74 m_T_isFull 0 := ⟨wT_m 498 (by decide +kernel) rfl, ci_T_isFull, ce_T_isFull, in_T, mi_T_isFull, ok_T_isFull⟩
theorem cw_P_77 : cwv "FrameTables$Parser" 77 m_T_append 4 := ⟨wT_m 499 (by decide +kernel) rfl, ci_T_append, ce_T_append, in_T, mi_T_append, ok_T_append⟩
theorem ci_P_takeReaders : .instanceMethod y_P_takeReaders ∈ wT := (wT_m 502 (by decide +kernel) rfl)
theorem ce_P_takeReaders : .selects "FrameTables$Parser" y_P_takeReaders y_P_takeReaders ∈ wT := wT_m 16 (by decide +kernel) rfl
theorem ok_P_takeReaders : okc m_P_takeReaders 1 := ⟨by decide +kernel, by decide +kernel, by decide +kernel⟩
theorem cw_P_58 : cwv "FrameTables$Parser" 58 m_P_takeReaders 1 := ⟨wT_m 500 (by decide +kernel) rfl, ci_P_takeReaders, ce_P_takeReaders, in_P, mi_P_takeReaders, ok_P_takeReaders⟩
theorem ci_P_mayRead : .instanceMethod y_P_mayRead ∈ wT := (wT_m 507 (by decide +kernel) rfl)
theorem ce_P_mayRead : .selects "FrameTables$Parser" y_P_mayRead y_P_mayRead ∈ wT := wT_m 17 (by decide +kernel) rfl
theorem ok_P_mayRead : okc m_P_mayRead 3 := ⟨by decide +kernel, by decide +kernel, by decide +kernel⟩
theorem cw_P_83 : cwv "FrameTables$Parser" 83 m_P_mayRead 3 := ⟨wT_m 505 (by decide +kernel) rfl, ci_P_mayRead, ce_P_mayRead, in_P, mi_P_mayRead, ok_P_mayRead⟩
theorem cw_P_87 : cwv "FrameTables$Parser" 87 m_T_size 0 := ⟨wT_m 509 (by decide +kernel) rfl, ci_T_size, ce_T_size, in_T, mi_T_size, ok_T_size⟩
theorem cw_P_94 : cwv "FrameTables$Parser" 94 m_T_senderOf 1 := ⟨wT_m 510 (by decide +kernel) rfl, ci_T_senderOf, ce_T_senderOf, in_T, mi_T_senderOf, ok_T_senderOf⟩
theorem cw_P_90 : cwv "FrameTables$Parser" 90 m_T_setTimeout 3 := ⟨wT_m 511 (by decide +kernel) rfl, ci_T_setTimeout, ce_T_setTimeout, in_T, mi_T_setTimeout, ok_T_setTimeout⟩
theorem ci_X_clear : .instanceMethod y_X_clear ∈ wT := (wT_m 513 (by decide +kernel) rfl)
theorem ce_X_clear : .selects "FrameTables$Text" y_X_clear y_X_clear ∈ wT := (wT_m 514 (by decide +kernel) rfl)
theorem ok_X_clear : okc m_X_clear 0 := ⟨by decide +kernel, by decide +kernel, by decide +kernel⟩
theorem cw_F_142 : cwv "FrameTables" 142 m_X_clear 0 := ⟨wT_m 512 (by decide +kernel) rfl, ci_X_clear, ce_X_clear, in_X, mi_X_clear, ok_X_clear⟩
theorem ci_F_writeLine : .instanceMethod y_F_writeLine ∈ wT := (wT_m 523 (by decide +kernel) rfl)
theorem ce_F_writeLine : .selects "FrameTables" y_F_writeLine y_F_writeLine ∈ wT := wT_m 18 (by decide +kernel) rfl
theorem ok_F_writeLine : okc m_F_writeLine 1 := ⟨by decide +kernel, by decide +kernel, by decide +kernel⟩
theorem cw_F_145 : cwv "FrameTables" 145 m_F_writeLine 1 := ⟨wT_m 521 (by decide +kernel) rfl, ci_F_writeLine, ce_F_writeLine, in_F, mi_F_writeLine, ok_F_writeLine⟩
theorem ci_X_addWord : .instanceMethod y_X_addWord ∈ wT := (wT_m 527 (by decide +kernel) rfl)
theorem ce_X_addWord : .selects "FrameTables$Text" y_X_addWord y_X_addWord ∈ wT := (wT_m 528 (by decide +kernel) rfl)
theorem ok_X_addWord : okc m_X_addWord 1 := ⟨by decide +kernel, by decide +kernel, by decide +kernel⟩
theorem cw_F_179 : cwv "FrameTables" 179 m_X_addWord 1 := ⟨wT_m 526 (by decide +kernel) rfl, ci_X_addWord, ce_X_addWord, in_X, mi_X_addWord, ok_X_addWord⟩
theorem cw_X_23 : cwv "FrameTables$Text" 23 m_K_length 0 := ⟨wT_m 530 (by decide +kernel) rfl, ci_K_length, ce_K_length, in_K, mi_K_length, ok_K_length⟩
theorem cw_X_28 : cwv "FrameTables$Text" 28 m_K_charAt 1 := ⟨wT_m 531 (by decide +kernel) rfl, ci_K_charAt, ce_K_charAt, in_K, mi_K_charAt, ok_K_charAt⟩
theorem cw_X_32 : cwv "FrameTables$Text" 32 m_X_add 1 := ⟨wT_m 532 (by decide +kernel) rfl, ci_X_add, ce_X_add, in_X, mi_X_add, ok_X_add⟩
theorem ci_X_addNumber : .instanceMethod y_X_addNumber ∈ wT := (wT_m 534 (by decide +kernel) rfl)
theorem ce_X_addNumber : .selects "FrameTables$Text" y_X_addNumber y_X_addNumber ∈ wT := (wT_m 535 (by decide +kernel) rfl)
theorem ok_X_addNumber : okc m_X_addNumber 1 := ⟨by decide +kernel, by decide +kernel, by decide +kernel⟩
theorem cw_F_183 : cwv "FrameTables" 183 m_X_addNumber 1 := ⟨wT_m 533 (by decide +kernel) rfl, ci_X_addNumber, ce_X_addNumber, in_X, mi_X_addNumber, ok_X_addNumber⟩
theorem ci_T_rankOf : .instanceMethod y_T_rankOf ∈ wT := (wT_m 538 (by decide +kernel) rfl)
theorem ce_T_rankOf : .selects "FrameTables$Table" y_T_rankOf y_T_rankOf ∈ wT := (wT_m 539 (by decide +kernel) rfl)
theorem ok_T_rankOf : okc m_T_rankOf 1 := ⟨by decide +kernel, by decide +kernel, by decide +kernel⟩
theorem cw_F_186 : cwv "FrameTables" 186 m_T_rankOf 1 := ⟨wT_m 537 (by decide +kernel) rfl, ci_T_rankOf, ce_T_rankOf, in_T, mi_T_rankOf, ok_T_rankOf⟩
theorem ci_T_gapOf : .instanceMethod y_T_gapOf ∈ wT := (wT_m 542 (by decide +kernel) rfl)
theorem ce_T_gapOf : .selects "FrameTables$Table" y_T_gapOf y_T_gapOf ∈ wT := (wT_m 543 (by decide +kernel) rfl)
theorem ok_T_gapOf : okc m_T_gapOf 1 := ⟨by decide +kernel, by decide +kernel, by decide +kernel⟩
theorem cw_F_189 : cwv "FrameTables" 189 m_T_gapOf 1 := ⟨wT_m 541 (by decide +kernel) rfl, ci_T_gapOf, ce_T_gapOf, in_T, mi_T_gapOf, ok_T_gapOf⟩
theorem cw_F_192 : cwv "FrameTables" 192 m_T_reads 2 := ⟨wT_m 545 (by decide +kernel) rfl, ci_T_reads, ce_T_reads, in_T, mi_T_reads, ok_T_reads⟩
theorem cw_F_196 : cwv "FrameTables" 196 m_T_timeoutOf 2 := ⟨wT_m 547 (by decide +kernel) rfl, ci_T_timeoutOf, ce_T_timeoutOf, in_T, mi_T_timeoutOf, ok_T_timeoutOf⟩
theorem ci_X_hasLostSigns : .instanceMethod y_X_hasLostSigns ∈ wT := (wT_m 549 (by decide +kernel) rfl)
theorem ce_X_hasLostSigns : .selects "FrameTables$Text" y_X_hasLostSigns y_X_hasLostSigns ∈ wT := (wT_m 550 (by decide +kernel) rfl)
theorem ok_X_hasLostSigns : okc m_X_hasLostSigns 0 := ⟨by decide +kernel, by decide +kernel, by decide +kernel⟩
theorem cw_F_149 : cwv "FrameTables" 149 m_X_hasLostSigns 0 := ⟨wT_m 548 (by decide +kernel) rfl, ci_X_hasLostSigns, ce_X_hasLostSigns, in_X, mi_X_hasLostSigns, ok_X_hasLostSigns⟩
theorem cw_F_152 : cwv "FrameTables" 152 m_X_length 0 := ⟨wT_m 552 (by decide +kernel) rfl, ci_X_length, ce_X_length, in_X, mi_X_length, ok_X_length⟩
theorem cw_F_155 : cwv "FrameTables" 155 m_X_signAt 1 := ⟨wT_m 557 (by decide +kernel) rfl, ci_X_signAt, ce_X_signAt, in_X, mi_X_signAt, ok_X_signAt⟩
theorem ci_T_touches : .instanceMethod y_T_touches ∈ wT := (wT_m 563 (by decide +kernel) rfl)
theorem ce_T_touches : .selects "FrameTables$Table" y_T_touches y_T_touches ∈ wT := (wT_m 564 (by decide +kernel) rfl)
theorem ok_T_touches : okc m_T_touches 2 := ⟨by decide +kernel, by decide +kernel, by decide +kernel⟩
theorem cw_F_158 : cwv "FrameTables" 158 m_T_touches 2 := ⟨wT_m 562 (by decide +kernel) rfl, ci_T_touches, ce_T_touches, in_T, mi_T_touches, ok_T_touches⟩
theorem ci_T_init : .instanceMethod y_T_init ∈ wT := (wT_m 64 (by decide +kernel) rfl)
theorem ok_T_init : okc m_T_init 0 := ⟨by decide +kernel, by decide +kernel, by decide +kernel⟩
theorem cw_F_9 : cwiN "FrameTables" 9 m_T_init 0 "FrameTables" := ⟨List.mem_of_getElem? (i := 0) rfl, ci_T_init, in_T, mi_T_init, rfl, ok_T_init⟩
theorem ci_X_init : .instanceMethod y_X_init ∈ wT := (wT_m 106 (by decide +kernel) rfl)
theorem ok_X_init : okc m_X_init 0 := ⟨by decide +kernel, by decide +kernel, by decide +kernel⟩
theorem cw_F_28 : cwiN "FrameTables" 28 m_X_init 0 "FrameTables" := ⟨List.mem_of_getElem? (i := 1) rfl, ci_X_init, in_X, mi_X_init, rfl, ok_X_init⟩
theorem ci_Q_init : .instanceMethod y_Q_init ∈ wT := (wT_m 142 (by decide +kernel) rfl)
theorem ok_Q_init : okc m_Q_init 0 := ⟨by decide +kernel, by decide +kernel, by decide +kernel⟩
theorem cw_F_44 : cwiN "FrameTables" 44 m_Q_init 0 "FrameTables" := ⟨List.mem_of_getElem? (i := 2) rfl, ci_Q_init, in_Q, mi_Q_init, rfl, ok_Q_init⟩
theorem cw_P_64 : cwsN "FrameTables$Parser" 64 m_F_isNode 1 "FrameTables" := ⟨List.mem_of_getElem? (i := 3) rfl, cs_F_isNode, in_F, mi_F_isNode, ok_F_isNode⟩
theorem cw_P_68 : cwsN "FrameTables$Parser" 68 m_F_isPeriod 1 "FrameTables" := ⟨List.mem_of_getElem? (i := 4) rfl, cs_F_isPeriod, in_F, mi_F_isPeriod, ok_F_isPeriod⟩
theorem cw_P_71 : cwsN "FrameTables$Parser" 71 m_F_isRank 1 "FrameTables" := ⟨List.mem_of_getElem? (i := 5) rfl, cs_F_isRank, in_F, mi_F_isRank, ok_F_isRank⟩
theorem nw_F_7 : .classLink "FrameTables" 7 "FrameTables$Table" ∈ wT ∧ .instantiable "FrameTables$Table" 7 ∈ wT ∧ .initialized "FrameTables$Table" ∈ wT := ⟨wT_m 61 (by decide +kernel) rfl, wT_m 62 (by decide +kernel) rfl, (wT_m 42 (by decide +kernel) rfl)⟩
theorem nw_F_19 : .classLink "FrameTables" 19 "FrameTables$Spans" ∈ wT ∧ .instantiable "FrameTables$Spans" 2 ∈ wT ∧ .initialized "FrameTables$Spans" ∈ wT := ⟨wT_m 90 (by decide +kernel) rfl, wT_m 91 (by decide +kernel) rfl, (wT_m 43 (by decide +kernel) rfl)⟩
theorem nw_F_26 : .classLink "FrameTables" 26 "FrameTables$Text" ∈ wT ∧ .instantiable "FrameTables$Text" 3 ∈ wT ∧ .initialized "FrameTables$Text" ∈ wT := ⟨wT_m 103 (by decide +kernel) rfl, wT_m 104 (by decide +kernel) rfl, (wT_m 44 (by decide +kernel) rfl)⟩
theorem nw_F_33 : .classLink "FrameTables" 33 "FrameTables$Parser" ∈ wT ∧ .instantiable "FrameTables$Parser" 4 ∈ wT ∧ .initialized "FrameTables$Parser" ∈ wT := ⟨wT_m 120 (by decide +kernel) rfl, wT_m 121 (by decide +kernel) rfl, (wT_m 45 (by decide +kernel) rfl)⟩
theorem nw_F_42 : .classLink "FrameTables" 42 "FrameTables$Search" ∈ wT ∧ .instantiable "FrameTables$Search" 9 ∈ wT ∧ .initialized "FrameTables$Search" ∈ wT := ⟨wT_m 139 (by decide +kernel) rfl, wT_m 140 (by decide +kernel) rfl, (wT_m 46 (by decide +kernel) rfl)⟩
theorem l2_F_98 : .constantLong "FrameTables" 98 (jI 3000) ∈ wT := wT_m 290 (by decide +kernel) rfl
theorem ls_P_48 : ("FrameTables$Parser", 48, "frame", 0) ∈ sRf := List.mem_of_getElem? (i := 0) rfl
theorem ls_P_81 : ("FrameTables$Parser", 81, "reads", 1) ∈ sRf := List.mem_of_getElem? (i := 1) rfl
theorem ls_F_177 : ("FrameTables", 177, "frame", 0) ∈ sRf := List.mem_of_getElem? (i := 2) rfl
theorem ls_F_195 : ("FrameTables", 195, "reads", 1) ∈ sRf := List.mem_of_getElem? (i := 3) rfl
end
section
theorem sByt_ch {i j : Nat} (hi : i < nSt) (hj : j < sln i) : (sByt.getD i []).getD j 0 &&& nI 255 = nI (sch i j) := by
  have h : ∀ i, i < nSt → ∀ j, j < sln i → (sByt.getD i []).getD j 0 &&& nI 255 = nI (sch i j) := by decide +kernel
  exact h i hi j hj
theorem nar_c {q : Nat} (h : q ≤ 255) : narrow .char (.int (nI q)) = .int (nI q) := (pk_charN (q := q) (by omega)).1
end
section
set_option maxHeartbeats 4000000 in
set_option maxRecDepth 100000 in
theorem c_K_coder (l : Launch) (D : va_G) (cI cC : ClassId) (E : Nat → Nat) (i9 : Nat) (hi9 : i9 < nSt) : CI l D (TY cI cC E) m_K_coder (rmD 0) [.ref (E i9)] ([]) (nI 0) ([]) := by
  refine CI.of (by decide +kernel) (of_decide_eq_true rfl) ?_
  intro p e s m args below meth c C hr
  refine V.getCS C (n := 3) fk_K_38 d_K_coder_0 rfl ?_
  refine V.ifn_eq C (tgt := 13) (n := 6) (by omega) d_K_coder_3 (by decide) rfl (fun c3_1 => ?_) (fun c3_1 => ?_)
  · exact absurd c3_1 (by decide)
  · refine V.aload_n C (n := 7) (j := 0) d_K_coder_6 rfl rfl rfl ?_
    refine V.getKc C (n := 10) (i := i9) hi9 fk_K_15 d_K_coder_7 rfl ?_
    refine V.goto C (n := 14) d_K_coder_10 (by decide) ?_
    exact V.zret C hr (by decide) d_K_coder_14 (rfl) (rfl)
set_option maxHeartbeats 4000000 in
set_option maxRecDepth 100000 in
theorem c_K_isLatin1 (l : Launch) (D : va_G) (cI cC : ClassId) (E : Nat → Nat) (i9 : Nat) (hi9 : i9 < nSt) : CI l D (TY cI cC E) m_K_isLatin1 (rmD 0) [.ref (E i9)] ([]) (bI (True)) ([]) := by
  refine CI.of (by decide +kernel) (of_decide_eq_true rfl) ?_
  intro p e s m args below meth c C hr
  refine V.getCS C (n := 3) fk_K_38 d_K_isLatin1_0 rfl ?_
  refine V.ifn_eq C (tgt := 17) (n := 6) (by omega) d_K_isLatin1_3 (by decide) rfl (fun c3_1 => ?_) (fun c3_1 => ?_)
  · exact absurd c3_1 (by decide)
  · refine V.aload_n C (n := 7) (j := 0) d_K_isLatin1_6 rfl rfl rfl ?_
    refine V.getKc C (n := 10) (i := i9) hi9 fk_K_15 d_K_isLatin1_7 rfl ?_
    refine V.ifn_ne C (tgt := 17) (n := 13) (by omega) d_K_isLatin1_10 (by decide) rfl (fun c10_2 => ?_) (fun c10_2 => ?_)
    · exact absurd c10_2 (by decide)
    · refine V.iconst C (v := nI 1) (n := 14) d_K_isLatin1_13 (by decide) rfl ?_
      refine V.goto C (n := 18) d_K_isLatin1_14 (by decide) ?_
      exact V.zret C hr (bI_nar _) d_K_isLatin1_18 (bI_1 trivial) (rfl)
set_option maxHeartbeats 4000000 in
set_option maxRecDepth 100000 in
theorem c_K_length (l : Launch) (D : va_G) (cI cC : ClassId) (E : Nat → Nat) (i9 : Nat) (hi9 : i9 < nSt) : CI l D (TY cI cC E) m_K_length (rmD 1) [.ref (E i9)] ([]) (nI (sln i9)) ([]) := by
  refine CI.of (by decide +kernel) (of_decide_eq_true rfl) ?_
  intro p e s m args below meth c C hr
  refine V.aload_n C (n := 1) (j := 0) d_K_length_0 rfl rfl rfl ?_
  refine V.getKv C (n := 4) (i := i9) hi9 fk_K_9 d_K_length_1 rfl ?_
  refine V.tlen C (n := 5) (i := i9) hi9 d_K_length_4 rfl ?_
  have hsl := sln_le i9
  refine V.aload_n C (n := 6) (j := 0) d_K_length_5 rfl rfl rfl ?_
  refine V.callK_i C (n := 9) (ws' := []) (c_K_coder l D cI cC E (i9) (by first | assumption | omega)) cw_K_335 [] [] [] (strRecv C (by first | assumption | omega)) rfl (of_decide_eq_true rfl) rfl (of_decide_eq_true rfl) rfl (of_decide_eq_true rfl) rfl (of_decide_eq_true rfl) rfl ⟨rfl, rfl⟩ ⟨by decide, by decide⟩ ⟨by decide, by decide⟩ rfl rfl (of_decide_eq_true rfl) d_K_length_6 rfl ?_
  refine V.ishr_r C (v := nI (sln i9)) (n := 10) d_K_length_9 (sc_shr0 (by omega)) rfl ?_
  exact V.iret C hr d_K_length_10 (rfl) (rfl)
set_option maxHeartbeats 4000000 in
set_option maxRecDepth 100000 in
theorem c_J_checkIndex_n (l : Launch) (D : va_G) (cI cC : ClassId) (E : Nat → Nat) (j9 n9 : Nat) (hj : j9 < n9) (hn9 : n9 ≤ 5) : CI l D (TY cI cC E) m_J_checkIndex (rmD 0) [.int (nI j9), .int (nI n9), .null] ([]) (nI j9) ([]) := by
  refine CI.of (by decide +kernel) (of_decide_eq_true rfl) ?_
  intro p e s m args below meth c C hr
  refine V.iload_n C (n := 1) (j := 0) d_J_checkIndex_0 rfl rfl rfl ?_
  refine V.ifn_lt C (tgt := 9) (n := 4) (by omega) d_J_checkIndex_1 (by decide) rfl (fun c1_1 => ?_) (fun c1_1 => ?_)
  · exfalso; omega
  · refine V.iload_n C (n := 5) (j := 0) d_J_checkIndex_4 rfl rfl rfl ?_
    refine V.iload_n C (n := 6) (j := 1) d_J_checkIndex_5 rfl rfl rfl ?_
    refine V.icmpn_lt C (tgt := 16) (n := 9) (by omega) (by omega) d_J_checkIndex_6 (by decide) rfl (fun c6_2 => ?_) (fun c6_2 => ?_)
    · refine V.iload_n C (n := 17) (j := 0) d_J_checkIndex_16 rfl rfl rfl ?_
      exact V.iret C hr d_J_checkIndex_17 (rfl) (rfl)
    · exfalso; omega
set_option maxHeartbeats 4000000 in
set_option maxRecDepth 100000 in
theorem c_J_checkIndex_r (l : Launch) (D : va_G) (cI cC : ClassId) (E : Nat → Nat) (j9 n9 fv : Nat) (hj : j9 < n9) (hn9 : n9 ≤ 5) : CI l D (TY cI cC E) m_J_checkIndex (rmD 0) [.int (nI j9), .int (nI n9), .ref fv] ([]) (nI j9) ([]) := by
  refine CI.of (by decide +kernel) (of_decide_eq_true rfl) ?_
  intro p e s m args below meth c C hr
  refine V.iload_n C (n := 1) (j := 0) d_J_checkIndex_0 rfl rfl rfl ?_
  refine V.ifn_lt C (tgt := 9) (n := 4) (by omega) d_J_checkIndex_1 (by decide) rfl (fun c1_1 => ?_) (fun c1_1 => ?_)
  · exfalso; omega
  · refine V.iload_n C (n := 5) (j := 0) d_J_checkIndex_4 rfl rfl rfl ?_
    refine V.iload_n C (n := 6) (j := 1) d_J_checkIndex_5 rfl rfl rfl ?_
    refine V.icmpn_lt C (tgt := 16) (n := 9) (by omega) (by omega) d_J_checkIndex_6 (by decide) rfl (fun c6_2 => ?_) (fun c6_2 => ?_)
    · refine V.iload_n C (n := 17) (j := 0) d_J_checkIndex_16 rfl rfl rfl ?_
      exact V.iret C hr d_J_checkIndex_17 (rfl) (rfl)
    · exfalso; omega
set_option maxHeartbeats 4000000 in
set_option maxRecDepth 100000 in
theorem c_K_checkIndex (l : Launch) (D : va_G) (cI cC : ClassId) (E : Nat → Nat) (j9 n9 : Nat) (hj : j9 < n9) (hn9 : n9 ≤ 5) : CV l D (TY cI cC E) m_K_checkIndex (rmD 1) [.int (nI j9), .int (nI n9)] [] [] := by
  refine CN.of (by decide +kernel) (of_decide_eq_true rfl) ?_
  intro p e s m args below meth c C hr hin
  refine V.iload_n C (n := 1) (j := 0) d_K_checkIndex_0 rfl rfl rfl ?_
  refine V.iload_n C (n := 2) (j := 1) d_K_checkIndex_1 rfl rfl rfl ?_
  refine V.getSF C (n := 5) fk_K_1053 d_K_checkIndex_2 rfl (fun v9 h9 => ?_)
  rcases h9 with rfl | ⟨fv, rfl⟩
  · refine V.callS_i C (n := 8) (ws' := []) (c_J_checkIndex_n l D cI cC E (j9) (n9) (by first | assumption | omega) (by first | assumption | omega)) cw_K_1059 [] [] [] rfl (of_decide_eq_true rfl) rfl (of_decide_eq_true rfl) rfl (of_decide_eq_true rfl) rfl (of_decide_eq_true rfl) rfl ⟨rfl, rfl⟩ ⟨by decide, by decide⟩ ⟨by decide, by decide⟩ rfl rfl (of_decide_eq_true rfl) d_K_checkIndex_5 rfl ?_
    refine V.pop C (n := 9) d_K_checkIndex_8 rfl rfl ?_
    exact V.vret C hr d_K_checkIndex_9 () (trivial) (rfl)
  · refine V.callS_i C (n := 8) (ws' := []) (c_J_checkIndex_r l D cI cC E (j9) (n9) (fv) (by first | assumption | omega) (by first | assumption | omega)) cw_K_1059 [] [] [] rfl (of_decide_eq_true rfl) rfl (of_decide_eq_true rfl) rfl (of_decide_eq_true rfl) rfl (of_decide_eq_true rfl) rfl ⟨rfl, rfl⟩ ⟨by decide, by decide⟩ ⟨by decide, by decide⟩ rfl rfl (of_decide_eq_true rfl) d_K_checkIndex_5 rfl ?_
    refine V.pop C (n := 9) d_K_checkIndex_8 rfl rfl ?_
    exact V.vret C hr d_K_checkIndex_9 () (trivial) (rfl)
set_option maxHeartbeats 4000000 in
set_option maxRecDepth 100000 in
theorem c_L_charAt (l : Launch) (D : va_G) (cI cC : ClassId) (E : Nat → Nat) (i9 j9 : Nat) (hi9 : i9 < nSt) (hj9 : j9 < sln i9) : CI l D (TY cI cC E) m_L_charAt (rmD 2) [.ref (E (i9 + nSt)), .int (nI j9)] ([]) (nI (sch i9 j9)) ([]) := by
  have hsl := sln_le i9
  refine CI.of (by decide +kernel) (of_decide_eq_true rfl) ?_
  intro p e s m args below meth c C hr
  refine V.iload_n C (n := 1) (j := 1) d_L_charAt_0 rfl rfl rfl ?_
  refine V.aload_n C (n := 2) (j := 0) d_L_charAt_1 rfl rfl rfl ?_
  refine V.tlen C (n := 3) (i := i9) hi9 d_L_charAt_2 rfl ?_
  have hsl := sln_le i9
  refine V.callS_v C (n := 6) (ws2 := fun _ => []) (c_K_checkIndex l D cI cC E (j9) (sln i9) (by first | assumption | omega) (by first | assumption | omega)) cw_L_9 [] [] [] rfl (of_decide_eq_true rfl) rfl (of_decide_eq_true rfl) rfl (of_decide_eq_true rfl) (fun _ => rfl) (fun _ => of_decide_eq_true rfl) rfl ⟨rfl, rfl⟩ ⟨by decide, by decide⟩ ⟨by decide, by decide⟩ rfl rfl (of_decide_eq_true rfl) d_L_charAt_3 rfl (fun _ _ => ?_)
  refine V.aload_n C (n := 7) (j := 0) d_L_charAt_6 rfl rfl rfl ?_
  refine V.iload_n C (n := 8) (j := 1) d_L_charAt_7 rfl rfl rfl ?_
  refine V.tb C (n := 9) (i := i9) (j := j9) hi9 hj9 d_L_charAt_8 rfl ?_
  refine V.sipush C (v := nI 255) (n := 12) d_L_charAt_9 (by decide) rfl ?_
  refine V.iand_r C (v := nI (sch i9 j9)) (n := 13) d_L_charAt_12 (sByt_ch hi9 hj9) rfl ?_
  have hsc := sch_le i9 j9
  refine V.i2c_n C (n := 14) (by omega) d_L_charAt_13 rfl ?_
  exact V.zret C hr (nar_c (sch_le i9 j9)) d_L_charAt_14 (rfl) (rfl)
set_option maxHeartbeats 4000000 in
set_option maxRecDepth 100000 in
theorem c_K_charAt (l : Launch) (D : va_G) (cI cC : ClassId) (E : Nat → Nat) (i9 j9 : Nat) (hi9 : i9 < nSt) (hj9 : j9 < sln i9) : CI l D (TY cI cC E) m_K_charAt (rmD 3) [.ref (E i9), .int (nI j9)] ([]) (nI (sch i9 j9)) ([]) := by
  refine CI.of (by decide +kernel) (of_decide_eq_true rfl) ?_
  intro p e s m args below meth c C hr
  refine V.aload_n C (n := 1) (j := 0) d_K_charAt_0 rfl rfl rfl ?_
  refine V.callK_i C (n := 4) (ws' := []) (c_K_isLatin1 l D cI cC E (i9) (by first | assumption | omega)) cw_K_492 [] [] [] (strRecv C (by first | assumption | omega)) rfl (of_decide_eq_true rfl) rfl (of_decide_eq_true rfl) rfl (of_decide_eq_true rfl) rfl (of_decide_eq_true rfl) rfl ⟨rfl, rfl⟩ ⟨by decide, by decide⟩ ⟨by decide, by decide⟩ rfl rfl (of_decide_eq_true rfl) d_K_charAt_1 rfl ?_
  refine V.ifb_eq C (tgt := 16) (n := 7) d_K_charAt_4 (by decide) rfl (fun c4_1 => ?_) (fun c4_1 => ?_)
  · exact absurd trivial c4_1
  · refine V.aload_n C (n := 8) (j := 0) d_K_charAt_7 rfl rfl rfl ?_
    refine V.getKv C (n := 11) (i := i9) hi9 fk_K_9 d_K_charAt_8 rfl ?_
    refine V.iload_n C (n := 12) (j := 1) d_K_charAt_11 rfl rfl rfl ?_
    refine V.callS_i C (n := 15) (ws' := []) (c_L_charAt l D cI cC E (i9) (j9) (by first | assumption | omega) (by first | assumption | omega)) cw_K_495 [] [] [] rfl (of_decide_eq_true rfl) rfl (of_decide_eq_true rfl) rfl (of_decide_eq_true rfl) rfl (of_decide_eq_true rfl) rfl ⟨rfl, rfl⟩ ⟨by decide, by decide⟩ ⟨by decide, by decide⟩ rfl rfl (of_decide_eq_true rfl) d_K_charAt_12 rfl ?_
    exact V.zret C hr (nar_c (sch_le i9 j9)) d_K_charAt_15 (rfl) (rfl)
end
section
/-! words for the state of a table: numbers out of cells -/
def TabW (a : Nat → Nat) (cI : ClassId) (sd pd rk gp of to : Nat → Nat) (n : Nat) : va_W := [(a 0, .inr (1, [.ref (a 1), .ref (a 2), .ref (a 3), .ref (a 4), .ref (a 5), .ref (a 6), .int (nI n)])), (a 1, .inl (cI, 41, .inl (fun j => nI (sd j)))), (a 2, .inl (cI, 41, .inl (fun j => nI (pd j)))), (a 3, .inl (cI, 41, .inl (fun j => nI (rk j)))), (a 4, .inl (cI, 41, .inl (fun j => nI (gp j)))), (a 5, .inl (cI, 41, .inl (fun j => nI (of j)))), (a 6, .inl (cI, 861, .inl (fun j => nI (to j))))]
def SpnW (a : Nat → Nat) (cI : ClassId) (fi la : Nat → Nat) : va_W := [(a 0, .inr (2, [.ref (a 1), .ref (a 2)])), (a 1, .inl (cI, 4, .inl (fun j => nI (fi j)))), (a 2, .inl (cI, 4, .inl (fun j => nI (la j))))]
noncomputable def TxtW (a : Nat → Nat) (cC : ClassId) (sg : Nat → Nat) (ln : Nat) (lo : Bool) : va_W := [(a 0, .inr (3, [.ref (a 1), .int (nI ln), .int (bI (lo = true))])), (a 1, .inl (cC, 2000, .inl (fun j => nI (sg j))))]
def ParW (a : Nat → Nat) (tx ws we le : Nat) : va_W := [(a 0, .inr (4, [.ref tx, .int (nI ws), .int (nI we), .int (nI le)]))]
def SeaW (a : Nat → Nat) (cI : ClassId) (fr sr nx pb br bg : Nat → Nat) (ps : Nat) (pl : Int) (bp : Nat) : va_W := [(a 0, .inr (5, [.ref (a 1), .ref (a 2), .ref (a 3), .ref (a 4), .ref (a 5), .ref (a 6), .int (nI ps), .int (iI pl), .int (nI bp)])), (a 1, .inl (cI, 40, .inl (fun j => nI (fr j)))), (a 2, .inl (cI, 40, .inl (fun j => nI (sr j)))), (a 3, .inl (cI, 40, .inl (fun j => nI (nx j)))), (a 4, .inl (cI, 40, .inl (fun j => nI (pb j)))), (a 5, .inl (cI, 40, .inl (fun j => nI (br j)))), (a 6, .inl (cI, 420, .inl (fun j => nI (bg j))))]
def TabOK (sd pd rk gp of to : Nat → Nat) (n : Nat) : Prop := n ≤ 40 ∧ (∀ j, sd j ≤ 20) ∧ (∀ j, pd j ≤ 60) ∧ (∀ j, rk j ≤ 99) ∧ (∀ j, gp j ≤ 60) ∧ (∀ j, of j ≤ 60) ∧ ∀ j, to j ≤ 10000
/-- how many of 1 .. m -/
def cntB (p : Nat → Bool) : Nat → Nat
  | 0 => 0
  | m + 1 => cntB p m + (if p (m + 1) = true then 1 else 0)
/-- one of 1 .. m -/
def anyB (p : Nat → Bool) : Nat → Bool
  | 0 => false
  | m + 1 => anyB p m || p (m + 1)
theorem cntB_s1 {p : Nat → Bool} {m : Nat} (h : p (m + 1) = true) : cntB p (m + 1) = cntB p m + 1 := by rw [cntB, if_pos h]
theorem cntB_s0 {p : Nat → Bool} {m : Nat} (h : ¬ p (m + 1) = true) : cntB p (m + 1) = cntB p m := by rw [cntB, if_neg h]; try rfl
theorem anyB_s {p : Nat → Bool} {m : Nat} (h : anyB p m = false) (h2 : ¬ p (m + 1) = true) : anyB p (m + 1) = false := by
  rw [anyB, h, Bool.false_or]
  exact Bool.eq_false_iff.mpr h2
theorem cntB_le (p : Nat → Bool) (m : Nat) : cntB p m ≤ m := by
  induction m with
  | zero => exact Nat.le_refl _
  | succ m ih => rw [cntB]; split <;> omega
theorem anyB_hit {p : Nat → Bool} {k m : Nat} (h1 : 1 ≤ k) (h2 : k ≤ m) (h : p k = true) : anyB p m = true := by
  induction m with
  | zero => omega
  | succ m ih =>
    rw [anyB]
    by_cases e : k = m + 1
    · rw [← e, h, Bool.or_true]
    · rw [ih (by omega), Bool.true_or]
theorem anyB_mono {p : Nat → Bool} {k m : Nat} (h : k ≤ m) (hk : anyB p k = true) : anyB p m = true := by
  induction m with
  | zero => rw [show k = 0 by omega] at hk; exact hk
  | succ m ih =>
    by_cases e : k = m + 1
    · rw [← e]; exact hk
    · rw [anyB, ih (by omega), Bool.true_or]
/-- a row of readers, its first j cleared -/
def clrT (to : Nat → Nat) (f j : Nat) : Nat → Nat := fun i => if f * 21 + 1 ≤ i ∧ i ≤ f * 21 + j then 0 else to i
theorem clrT_0 (to : Nat → Nat) (f : Nat) : clrT to f 0 = to := by
  funext i
  unfold clrT
  rw [if_neg (by omega)]
theorem clrT_s (to : Nat → Nat) (f j : Nat) : updN (clrT to f j) (f * 21 + (j + 1)) 0 = clrT to f (j + 1) := by
  funext i
  unfold updN clrT
  by_cases h : i = f * 21 + (j + 1)
  · rw [if_pos h, if_pos (by omega)]
  · rw [if_neg h]
    by_cases h2 : f * 21 + 1 ≤ i ∧ i ≤ f * 21 + j
    · rw [if_pos h2, if_pos (by omega)]
    · rw [if_neg h2, if_neg (by omega)]
theorem clrT_le {to : Nat → Nat} {f j : Nat} (h : ∀ i, to i ≤ 10000) : ∀ i, clrT to f j i ≤ 10000 := by
  intro i
  unfold clrT
  split
  · omega
  · exact h i
theorem updN_le {f : Nat → Nat} {k x m : Nat} (h : ∀ j, f j ≤ m) (hx : x ≤ m) : ∀ j, updN f k x j ≤ m := by
  intro j
  unfold updN
  split
  · exact hx
  · exact h j
theorem TabOK_app {sd pd rk gp of to tt : Nat → Nat} {n s9 p9 r9 g9 : Nat} (hT : TabOK sd pd rk gp of to n) (h40 : n < 40) (hs : s9 ≤ 20) (hp : p9 ≤ 60) (hq : r9 ≤ 99) (hg : g9 ≤ 60) (ht : ∀ j, tt j ≤ 10000) : TabOK (updN sd (n + 1) s9) (updN pd (n + 1) p9) (updN rk (n + 1) r9) (updN gp (n + 1) g9) (updN of (n + 1) 0) tt (n + 1) := by
  obtain ⟨hn, hsd, hpd, hrk, hgp, hof, hto⟩ := hT
  exact ⟨by omega, updN_le hsd hs, updN_le hpd hp, updN_le hrk hq, updN_le hgp hg, updN_le hof (by omega), ht⟩
end
section
set_option maxHeartbeats 4000000 in
set_option maxRecDepth 100000 in
theorem c_T_clear (l : Launch) (D : va_G) (cI cC : ClassId) (E : Nat → Nat) (a : Nat → Nat) (sd pd rk gp of to : Nat → Nat) (n : Nat) (hT : TabOK sd pd rk gp of to n) : CV l D (TY cI cC E) m_T_clear (rmD 0) [.ref (a 0)] (TabW a cI sd pd rk gp of to n) (TabW a cI sd pd rk gp of to 0) := by
  obtain ⟨hn, hsd, hpd, hrk, hgp, hof, hto⟩ := id hT
  refine CN.of (by decide +kernel) (of_decide_eq_true rfl) ?_
  intro p e s m args below meth c C hr hin
  refine V.aload_n C (n := 1) (j := 0) d_T_clear_0 rfl rfl rfl ?_
  refine V.iconst C (v := nI 0) (n := 2) d_T_clear_1 (by decide) rfl ?_
  refine V.put C (n := 5) (q0 := 0) (k0 := 6) (ws' := (TabW a cI sd pd rk gp of to 0)) clOk_1 rfl (by decide) rfl rfl fl_T_30 rfl rfl (of_decide_eq_true rfl) rfl d_T_clear_2 rfl ?_
  exact V.vret C hr d_T_clear_5 () (trivial) (rfl)
set_option maxHeartbeats 4000000 in
set_option maxRecDepth 100000 in
theorem c_T_size (l : Launch) (D : va_G) (cI cC : ClassId) (E : Nat → Nat) (a : Nat → Nat) (sd pd rk gp of to : Nat → Nat) (n : Nat) (hT : TabOK sd pd rk gp of to n) : CI l D (TY cI cC E) m_T_size (rmD 0) [.ref (a 0)] ((TabW a cI sd pd rk gp of to n)) (nI n) ((TabW a cI sd pd rk gp of to n)) := by
  obtain ⟨hn, hsd, hpd, hrk, hgp, hof, hto⟩ := id hT
  refine CI.of (by decide +kernel) (of_decide_eq_true rfl) ?_
  intro p e s m args below meth c C hr
  refine V.aload_n C (n := 1) (j := 0) d_T_size_0 rfl rfl rfl ?_
  refine V.get C (n := 4) (q0 := 0) (k0 := 6) clOk_1 rfl (by decide) rfl fl_T_30 rfl d_T_size_1 rfl ?_
  exact V.iret C hr d_T_size_4 (rfl) (rfl)
set_option maxHeartbeats 4000000 in
set_option maxRecDepth 100000 in
theorem c_T_isFull (l : Launch) (D : va_G) (cI cC : ClassId) (E : Nat → Nat) (a : Nat → Nat) (sd pd rk gp of to : Nat → Nat) (n : Nat) (hT : TabOK sd pd rk gp of to n) : CI l D (TY cI cC E) m_T_isFull (rmD 0) [.ref (a 0)] ((TabW a cI sd pd rk gp of to n)) (bI (40 ≤ n)) ((TabW a cI sd pd rk gp of to n)) := by
  obtain ⟨hn, hsd, hpd, hrk, hgp, hof, hto⟩ := id hT
  refine CI.of (by decide +kernel) (of_decide_eq_true rfl) ?_
  intro p e s m args below meth c C hr
  refine V.aload_n C (n := 1) (j := 0) d_T_isFull_0 rfl rfl rfl ?_
  refine V.get C (n := 4) (q0 := 0) (k0 := 6) clOk_1 rfl (by decide) rfl fl_T_30 rfl d_T_isFull_1 rfl ?_
  refine V.bipush C (v := nI 40) (n := 6) d_T_isFull_4 (by decide) rfl ?_
  refine V.icmpn_lt C (tgt := 13) (n := 9) (by omega) (by omega) d_T_isFull_6 (by decide) rfl (fun c6_1 => ?_) (fun c6_1 => ?_)
  · refine V.iconst C (v := nI 0) (n := 14) d_T_isFull_13 (by decide) rfl ?_
    exact V.zret C hr (bI_nar _) d_T_isFull_14 (by first | exact bI_1 (by omega) | exact bI_0 (by omega)) (rfl)
  · refine V.iconst C (v := nI 1) (n := 10) d_T_isFull_9 (by decide) rfl ?_
    refine V.goto C (n := 14) d_T_isFull_10 (by decide) ?_
    exact V.zret C hr (bI_nar _) d_T_isFull_14 (by first | exact bI_1 (by omega) | exact bI_0 (by omega)) (rfl)
set_option maxHeartbeats 4000000 in
set_option maxRecDepth 100000 in
theorem c_T_has (l : Launch) (D : va_G) (cI cC : ClassId) (E : Nat → Nat) (a : Nat → Nat) (sd pd rk gp of to : Nat → Nat) (n : Nat) (X : Int) (hT : TabOK sd pd rk gp of to n) (hX : -2147483648 ≤ X ∧ X < 2147483648) : CI l D (TY cI cC E) m_T_has (rmD 0) [.ref (a 0), .int (iI (X))] ((TabW a cI sd pd rk gp of to n)) (bI (1 ≤ X ∧ X ≤ (n : Int))) ((TabW a cI sd pd rk gp of to n)) := by
  obtain ⟨hn, hsd, hpd, hrk, hgp, hof, hto⟩ := id hT
  refine CI.of (by decide +kernel) (of_decide_eq_true rfl) ?_
  intro p e s m args below meth c C hr
  refine V.iload_n C (n := 1) (j := 1) d_T_has_0 rfl rfl rfl ?_
  refine V.iconst C (v := nI 1) (n := 2) d_T_has_1 (by decide) rfl ?_
  refine V.icmp_lt C (tgt := 17) (n := 5) (iI_toInt (by omega) (by omega)) (nT (by omega)) d_T_has_2 (by decide) rfl (fun c2_1 => ?_) (fun c2_1 => ?_)
  · refine V.iconst C (v := nI 0) (n := 18) d_T_has_17 (by decide) rfl ?_
    exact V.zret C hr (bI_nar _) d_T_has_18 (by first | exact bI_1 (by omega) | exact bI_0 (by omega)) (rfl)
  · refine V.iload_n C (n := 6) (j := 1) d_T_has_5 rfl rfl rfl ?_
    refine V.aload_n C (n := 7) (j := 0) d_T_has_6 rfl rfl rfl ?_
    refine V.get C (n := 10) (q0 := 0) (k0 := 6) clOk_1 rfl (by decide) rfl fl_T_30 rfl d_T_has_7 rfl ?_
    refine V.icmp_gt C (tgt := 17) (n := 13) (iI_toInt (by omega) (by omega)) (nT (by omega)) d_T_has_10 (by decide) rfl (fun c10_2 => ?_) (fun c10_2 => ?_)
    · refine V.iconst C (v := nI 0) (n := 18) d_T_has_17 (by decide) rfl ?_
      exact V.zret C hr (bI_nar _) d_T_has_18 (by first | exact bI_1 (by omega) | exact bI_0 (by omega)) (rfl)
    · refine V.iconst C (v := nI 1) (n := 14) d_T_has_13 (by decide) rfl ?_
      refine V.goto C (n := 18) d_T_has_14 (by decide) ?_
      exact V.zret C hr (bI_nar _) d_T_has_18 (by first | exact bI_1 (by omega) | exact bI_0 (by omega)) (rfl)
set_option maxHeartbeats 4000000 in
set_option maxRecDepth 100000 in
theorem c_T_senderOf (l : Launch) (D : va_G) (cI cC : ClassId) (E : Nat → Nat) (a : Nat → Nat) (sd pd rk gp of to : Nat → Nat) (n : Nat) (f : Nat) (hT : TabOK sd pd rk gp of to n) (hf : f ≤ 40) : CI l D (TY cI cC E) m_T_senderOf (rmD 0) [.ref (a 0), .int (nI f)] ((TabW a cI sd pd rk gp of to n)) (nI (sd f)) ((TabW a cI sd pd rk gp of to n)) := by
  obtain ⟨hn, hsd, hpd, hrk, hgp, hof, hto⟩ := id hT
  refine CI.of (by decide +kernel) (of_decide_eq_true rfl) ?_
  intro p e s m args below meth c C hr
  refine V.aload_n C (n := 1) (j := 0) d_T_senderOf_0 rfl rfl rfl ?_
  refine V.get C (n := 4) (q0 := 0) (k0 := 0) clOk_1 rfl (by decide) rfl fl_T_9 rfl d_T_senderOf_1 rfl ?_
  refine V.iload_n C (n := 5) (j := 1) d_T_senderOf_4 rfl rfl rfl ?_
  refine V.iaload_n C (n := 6) (q0 := 1) (t0 := 0) (i := f) rfl rfl (by omega) (by decide) d_T_senderOf_5 rfl ?_
  have b_1 := hsd (f)
  exact V.iret C hr d_T_senderOf_6 (rfl) (rfl)
set_option maxHeartbeats 4000000 in
set_option maxRecDepth 100000 in
theorem c_T_periodOf (l : Launch) (D : va_G) (cI cC : ClassId) (E : Nat → Nat) (a : Nat → Nat) (sd pd rk gp of to : Nat → Nat) (n : Nat) (f : Nat) (hT : TabOK sd pd rk gp of to n) (hf : f ≤ 40) : CI l D (TY cI cC E) m_T_periodOf (rmD 0) [.ref (a 0), .int (nI f)] ((TabW a cI sd pd rk gp of to n)) (nI (pd f)) ((TabW a cI sd pd rk gp of to n)) := by
  obtain ⟨hn, hsd, hpd, hrk, hgp, hof, hto⟩ := id hT
  refine CI.of (by decide +kernel) (of_decide_eq_true rfl) ?_
  intro p e s m args below meth c C hr
  refine V.aload_n C (n := 1) (j := 0) d_T_periodOf_0 rfl rfl rfl ?_
  refine V.get C (n := 4) (q0 := 0) (k0 := 1) clOk_1 rfl (by decide) rfl fl_T_15 rfl d_T_periodOf_1 rfl ?_
  refine V.iload_n C (n := 5) (j := 1) d_T_periodOf_4 rfl rfl rfl ?_
  refine V.iaload_n C (n := 6) (q0 := 2) (t0 := 0) (i := f) rfl rfl (by omega) (by decide) d_T_periodOf_5 rfl ?_
  have b_1 := hpd (f)
  exact V.iret C hr d_T_periodOf_6 (rfl) (rfl)
set_option maxHeartbeats 4000000 in
set_option maxRecDepth 100000 in
theorem c_T_rankOf (l : Launch) (D : va_G) (cI cC : ClassId) (E : Nat → Nat) (a : Nat → Nat) (sd pd rk gp of to : Nat → Nat) (n : Nat) (f : Nat) (hT : TabOK sd pd rk gp of to n) (hf : f ≤ 40) : CI l D (TY cI cC E) m_T_rankOf (rmD 0) [.ref (a 0), .int (nI f)] ((TabW a cI sd pd rk gp of to n)) (nI (rk f)) ((TabW a cI sd pd rk gp of to n)) := by
  obtain ⟨hn, hsd, hpd, hrk, hgp, hof, hto⟩ := id hT
  refine CI.of (by decide +kernel) (of_decide_eq_true rfl) ?_
  intro p e s m args below meth c C hr
  refine V.aload_n C (n := 1) (j := 0) d_T_rankOf_0 rfl rfl rfl ?_
  refine V.get C (n := 4) (q0 := 0) (k0 := 2) clOk_1 rfl (by decide) rfl fl_T_18 rfl d_T_rankOf_1 rfl ?_
  refine V.iload_n C (n := 5) (j := 1) d_T_rankOf_4 rfl rfl rfl ?_
  refine V.iaload_n C (n := 6) (q0 := 3) (t0 := 0) (i := f) rfl rfl (by omega) (by decide) d_T_rankOf_5 rfl ?_
  have b_1 := hrk (f)
  exact V.iret C hr d_T_rankOf_6 (rfl) (rfl)
set_option maxHeartbeats 4000000 in
set_option maxRecDepth 100000 in
theorem c_T_gapOf (l : Launch) (D : va_G) (cI cC : ClassId) (E : Nat → Nat) (a : Nat → Nat) (sd pd rk gp of to : Nat → Nat) (n : Nat) (f : Nat) (hT : TabOK sd pd rk gp of to n) (hf : f ≤ 40) : CI l D (TY cI cC E) m_T_gapOf (rmD 0) [.ref (a 0), .int (nI f)] ((TabW a cI sd pd rk gp of to n)) (nI (gp f)) ((TabW a cI sd pd rk gp of to n)) := by
  obtain ⟨hn, hsd, hpd, hrk, hgp, hof, hto⟩ := id hT
  refine CI.of (by decide +kernel) (of_decide_eq_true rfl) ?_
  intro p e s m args below meth c C hr
  refine V.aload_n C (n := 1) (j := 0) d_T_gapOf_0 rfl rfl rfl ?_
  refine V.get C (n := 4) (q0 := 0) (k0 := 3) clOk_1 rfl (by decide) rfl fl_T_21 rfl d_T_gapOf_1 rfl ?_
  refine V.iload_n C (n := 5) (j := 1) d_T_gapOf_4 rfl rfl rfl ?_
  refine V.iaload_n C (n := 6) (q0 := 4) (t0 := 0) (i := f) rfl rfl (by omega) (by decide) d_T_gapOf_5 rfl ?_
  have b_1 := hgp (f)
  exact V.iret C hr d_T_gapOf_6 (rfl) (rfl)
set_option maxHeartbeats 4000000 in
set_option maxRecDepth 100000 in
theorem c_T_offsetOf (l : Launch) (D : va_G) (cI cC : ClassId) (E : Nat → Nat) (a : Nat → Nat) (sd pd rk gp of to : Nat → Nat) (n : Nat) (f : Nat) (hT : TabOK sd pd rk gp of to n) (hf : f ≤ 40) : CI l D (TY cI cC E) m_T_offsetOf (rmD 0) [.ref (a 0), .int (nI f)] ((TabW a cI sd pd rk gp of to n)) (nI (of f)) ((TabW a cI sd pd rk gp of to n)) := by
  obtain ⟨hn, hsd, hpd, hrk, hgp, hof, hto⟩ := id hT
  refine CI.of (by decide +kernel) (of_decide_eq_true rfl) ?_
  intro p e s m args below meth c C hr
  refine V.aload_n C (n := 1) (j := 0) d_T_offsetOf_0 rfl rfl rfl ?_
  refine V.get C (n := 4) (q0 := 0) (k0 := 4) clOk_1 rfl (by decide) rfl fl_T_24 rfl d_T_offsetOf_1 rfl ?_
  refine V.iload_n C (n := 5) (j := 1) d_T_offsetOf_4 rfl rfl rfl ?_
  refine V.iaload_n C (n := 6) (q0 := 5) (t0 := 0) (i := f) rfl rfl (by omega) (by decide) d_T_offsetOf_5 rfl ?_
  have b_1 := hof (f)
  exact V.iret C hr d_T_offsetOf_6 (rfl) (rfl)
set_option maxHeartbeats 4000000 in
set_option maxRecDepth 100000 in
theorem c_T_kindOf (l : Launch) (D : va_G) (cI cC : ClassId) (E : Nat → Nat) (a : Nat → Nat) (sd pd rk gp of to : Nat → Nat) (n : Nat) (f : Nat) (hT : TabOK sd pd rk gp of to n) (hf : f ≤ 40) : CI l D (TY cI cC E) m_T_kindOf (rmD 0) [.ref (a 0), .int (nI f)] ((TabW a cI sd pd rk gp of to n)) (nI (rk f / 25)) ((TabW a cI sd pd rk gp of to n)) := by
  obtain ⟨hn, hsd, hpd, hrk, hgp, hof, hto⟩ := id hT
  refine CI.of (by decide +kernel) (of_decide_eq_true rfl) ?_
  intro p e s m args below meth c C hr
  refine V.aload_n C (n := 1) (j := 0) d_T_kindOf_0 rfl rfl rfl ?_
  refine V.get C (n := 4) (q0 := 0) (k0 := 2) clOk_1 rfl (by decide) rfl fl_T_18 rfl d_T_kindOf_1 rfl ?_
  refine V.iload_n C (n := 5) (j := 1) d_T_kindOf_4 rfl rfl rfl ?_
  refine V.iaload_n C (n := 6) (q0 := 3) (t0 := 0) (i := f) rfl rfl (by omega) (by decide) d_T_kindOf_5 rfl ?_
  have b_1 := hrk (f)
  refine V.bipush C (v := nI 25) (n := 8) d_T_kindOf_6 (by decide) rfl ?_
  refine V.idiv_n C (n := 9) d_T_kindOf_8 (by omega) (by omega) (by omega) rfl ?_
  exact V.iret C hr d_T_kindOf_9 (rfl) (rfl)
set_option maxHeartbeats 4000000 in
set_option maxRecDepth 100000 in
theorem c_T_setGap (l : Launch) (D : va_G) (cI cC : ClassId) (E : Nat → Nat) (a : Nat → Nat) (sd pd rk gp of to : Nat → Nat) (n : Nat) (f x : Nat) (hT : TabOK sd pd rk gp of to n) (hf : f ≤ 40) (hx : x ≤ 60) : CV l D (TY cI cC E) m_T_setGap (rmD 0) [.ref (a 0), .int (nI f), .int (nI x)] (TabW a cI sd pd rk gp of to n) (TabW a cI sd pd rk (updN gp f x) of to n) := by
  obtain ⟨hn, hsd, hpd, hrk, hgp, hof, hto⟩ := id hT
  refine CN.of (by decide +kernel) (of_decide_eq_true rfl) ?_
  intro p e s m args below meth c C hr hin
  refine V.aload_n C (n := 1) (j := 0) d_T_setGap_0 rfl rfl rfl ?_
  refine V.get C (n := 4) (q0 := 0) (k0 := 3) clOk_1 rfl (by decide) rfl fl_T_21 rfl d_T_setGap_1 rfl ?_
  refine V.iload_n C (n := 5) (j := 1) d_T_setGap_4 rfl rfl rfl ?_
  refine V.iload_n C (n := 6) (j := 2) d_T_setGap_5 rfl rfl rfl ?_
  refine V.iastore_n C (n := 7) (q0 := 4) (t0 := 0) (i := f) (ws' := (TabW a cI sd pd rk (updN gp f x) of to n)) rfl rfl (by omega) (by decide) rfl d_T_setGap_6 rfl ?_
  exact V.vret C hr d_T_setGap_7 () (trivial) (rfl)
set_option maxHeartbeats 4000000 in
set_option maxRecDepth 100000 in
theorem c_T_setOffset (l : Launch) (D : va_G) (cI cC : ClassId) (E : Nat → Nat) (a : Nat → Nat) (sd pd rk gp of to : Nat → Nat) (n : Nat) (f x : Nat) (hT : TabOK sd pd rk gp of to n) (hf : f ≤ 40) (hx : x ≤ 60) : CV l D (TY cI cC E) m_T_setOffset (rmD 0) [.ref (a 0), .int (nI f), .int (nI x)] (TabW a cI sd pd rk gp of to n) (TabW a cI sd pd rk gp (updN of f x) to n) := by
  obtain ⟨hn, hsd, hpd, hrk, hgp, hof, hto⟩ := id hT
  refine CN.of (by decide +kernel) (of_decide_eq_true rfl) ?_
  intro p e s m args below meth c C hr hin
  refine V.aload_n C (n := 1) (j := 0) d_T_setOffset_0 rfl rfl rfl ?_
  refine V.get C (n := 4) (q0 := 0) (k0 := 4) clOk_1 rfl (by decide) rfl fl_T_24 rfl d_T_setOffset_1 rfl ?_
  refine V.iload_n C (n := 5) (j := 1) d_T_setOffset_4 rfl rfl rfl ?_
  refine V.iload_n C (n := 6) (j := 2) d_T_setOffset_5 rfl rfl rfl ?_
  refine V.iastore_n C (n := 7) (q0 := 5) (t0 := 0) (i := f) (ws' := (TabW a cI sd pd rk gp (updN of f x) to n)) rfl rfl (by omega) (by decide) rfl d_T_setOffset_6 rfl ?_
  exact V.vret C hr d_T_setOffset_7 () (trivial) (rfl)
set_option maxHeartbeats 4000000 in
set_option maxRecDepth 100000 in
theorem c_T_timeoutOf (l : Launch) (D : va_G) (cI cC : ClassId) (E : Nat → Nat) (a : Nat → Nat) (sd pd rk gp of to : Nat → Nat) (n : Nat) (f k : Nat) (hT : TabOK sd pd rk gp of to n) (hf : f ≤ 40) (hk : k ≤ 20) : CI l D (TY cI cC E) m_T_timeoutOf (rmD 0) [.ref (a 0), .int (nI f), .int (nI k)] ((TabW a cI sd pd rk gp of to n)) (nI (to (f * 21 + k))) ((TabW a cI sd pd rk gp of to n)) := by
  obtain ⟨hn, hsd, hpd, hrk, hgp, hof, hto⟩ := id hT
  refine CI.of (by decide +kernel) (of_decide_eq_true rfl) ?_
  intro p e s m args below meth c C hr
  refine V.aload_n C (n := 1) (j := 0) d_T_timeoutOf_0 rfl rfl rfl ?_
  refine V.get C (n := 4) (q0 := 0) (k0 := 5) clOk_1 rfl (by decide) rfl fl_T_27 rfl d_T_timeoutOf_1 rfl ?_
  refine V.iload_n C (n := 5) (j := 1) d_T_timeoutOf_4 rfl rfl rfl ?_
  refine V.bipush C (v := nI 21) (n := 7) d_T_timeoutOf_5 (by decide) rfl ?_
  refine V.imul_n C (n := 8) d_T_timeoutOf_7 rfl ?_
  refine V.iload_n C (n := 9) (j := 2) d_T_timeoutOf_8 rfl rfl rfl ?_
  refine V.iadd_n C (n := 10) d_T_timeoutOf_9 rfl ?_
  refine V.iaload_n C (n := 11) (q0 := 6) (t0 := 0) (i := (f * 21) + k) rfl rfl (by omega) (by decide) d_T_timeoutOf_10 rfl ?_
  have b_1 := hto ((f * 21) + k)
  exact V.iret C hr d_T_timeoutOf_11 (rfl) (rfl)
set_option maxHeartbeats 4000000 in
set_option maxRecDepth 100000 in
theorem c_T_setTimeout (l : Launch) (D : va_G) (cI cC : ClassId) (E : Nat → Nat) (a : Nat → Nat) (sd pd rk gp of to : Nat → Nat) (n : Nat) (f k x : Nat) (hT : TabOK sd pd rk gp of to n) (hf : f ≤ 40) (hk : k ≤ 20) (hx : x ≤ 10000) : CV l D (TY cI cC E) m_T_setTimeout (rmD 0) [.ref (a 0), .int (nI f), .int (nI k), .int (nI x)] (TabW a cI sd pd rk gp of to n) (TabW a cI sd pd rk gp of (updN to (f * 21 + k) x) n) := by
  obtain ⟨hn, hsd, hpd, hrk, hgp, hof, hto⟩ := id hT
  refine CN.of (by decide +kernel) (of_decide_eq_true rfl) ?_
  intro p e s m args below meth c C hr hin
  refine V.aload_n C (n := 1) (j := 0) d_T_setTimeout_0 rfl rfl rfl ?_
  refine V.get C (n := 4) (q0 := 0) (k0 := 5) clOk_1 rfl (by decide) rfl fl_T_27 rfl d_T_setTimeout_1 rfl ?_
  refine V.iload_n C (n := 5) (j := 1) d_T_setTimeout_4 rfl rfl rfl ?_
  refine V.bipush C (v := nI 21) (n := 7) d_T_setTimeout_5 (by decide) rfl ?_
  refine V.imul_n C (n := 8) d_T_setTimeout_7 rfl ?_
  refine V.iload_n C (n := 9) (j := 2) d_T_setTimeout_8 rfl rfl rfl ?_
  refine V.iadd_n C (n := 10) d_T_setTimeout_9 rfl ?_
  refine V.iload_n C (n := 11) (j := 3) d_T_setTimeout_10 rfl rfl rfl ?_
  refine V.iastore_n C (n := 12) (q0 := 6) (t0 := 0) (i := (f * 21) + k) (ws' := (TabW a cI sd pd rk gp of (updN to ((f * 21) + k) x) n)) rfl rfl (by omega) (by decide) rfl d_T_setTimeout_11 rfl ?_
  exact V.vret C hr d_T_setTimeout_12 () (trivial) (rfl)
set_option maxHeartbeats 4000000 in
set_option maxRecDepth 100000 in
theorem c_T_reads (l : Launch) (D : va_G) (cI cC : ClassId) (E : Nat → Nat) (a : Nat → Nat) (sd pd rk gp of to : Nat → Nat) (n : Nat) (f k : Nat) (hT : TabOK sd pd rk gp of to n) (hf : f ≤ 40) (hk : k ≤ 20) : CI l D (TY cI cC E) m_T_reads (rmD 1) [.ref (a 0), .int (nI f), .int (nI k)] ((TabW a cI sd pd rk gp of to n)) (bI (0 < to (f * 21 + k))) ((TabW a cI sd pd rk gp of to n)) := by
  obtain ⟨hn, hsd, hpd, hrk, hgp, hof, hto⟩ := id hT
  refine CI.of (by decide +kernel) (of_decide_eq_true rfl) ?_
  intro p e s m args below meth c C hr
  refine V.aload_n C (n := 1) (j := 0) d_T_reads_0 rfl rfl rfl ?_
  refine V.iload_n C (n := 2) (j := 1) d_T_reads_1 rfl rfl rfl ?_
  refine V.iload_n C (n := 3) (j := 2) d_T_reads_2 rfl rfl rfl ?_
  refine V.callV_i C (n := 6) (ws' := (TabW a cI sd pd rk gp of to n)) (c_T_timeoutOf l D cI cC E (a) (sd) (pd) (rk) (gp) (of) (to) (n) (f) (k) (by first | assumption | omega) (by first | assumption | omega) (by first | assumption | omega)) cw_T_42 [0, 1, 2, 3, 4, 5, 6] [] [0, 1, 2, 3, 4, 5, 6] (qr := 0) rfl rfl rfl (of_decide_eq_true rfl) rfl (of_decide_eq_true rfl) rfl (of_decide_eq_true rfl) rfl (of_decide_eq_true rfl) rfl ⟨rfl, rfl⟩ ⟨by decide, by decide⟩ ⟨by decide, by decide⟩ rfl rfl (of_decide_eq_true rfl) d_T_reads_3 rfl ?_
  have b_1 := hto (f * 21 + k)
  refine V.ifn_le C (tgt := 13) (n := 9) (by omega) d_T_reads_6 (by decide) rfl (fun c6_1 => ?_) (fun c6_1 => ?_)
  · refine V.iconst C (v := nI 0) (n := 14) d_T_reads_13 (by decide) rfl ?_
    exact V.zret C hr (bI_nar _) d_T_reads_14 (by first | exact bI_1 (by omega) | exact bI_0 (by omega)) (rfl)
  · refine V.iconst C (v := nI 1) (n := 10) d_T_reads_9 (by decide) rfl ?_
    refine V.goto C (n := 14) d_T_reads_10 (by decide) ?_
    exact V.zret C hr (bI_nar _) d_T_reads_14 (by first | exact bI_1 (by omega) | exact bI_0 (by omega)) (rfl)
set_option maxHeartbeats 4000000 in
set_option maxRecDepth 100000 in
theorem c_T_touches (l : Launch) (D : va_G) (cI cC : ClassId) (E : Nat → Nat) (a : Nat → Nat) (sd pd rk gp of to : Nat → Nat) (n : Nat) (f k : Nat) (hT : TabOK sd pd rk gp of to n) (hf : f ≤ 40) (hk : k ≤ 20) : CI l D (TY cI cC E) m_T_touches (rmD 2) [.ref (a 0), .int (nI f), .int (nI k)] ((TabW a cI sd pd rk gp of to n)) (bI (sd f = k ∨ 0 < to (f * 21 + k))) ((TabW a cI sd pd rk gp of to n)) := by
  obtain ⟨hn, hsd, hpd, hrk, hgp, hof, hto⟩ := id hT
  refine CI.of (by decide +kernel) (of_decide_eq_true rfl) ?_
  intro p e s m args below meth c C hr
  refine V.aload_n C (n := 1) (j := 0) d_T_touches_0 rfl rfl rfl ?_
  refine V.get C (n := 4) (q0 := 0) (k0 := 0) clOk_1 rfl (by decide) rfl fl_T_9 rfl d_T_touches_1 rfl ?_
  refine V.iload_n C (n := 5) (j := 1) d_T_touches_4 rfl rfl rfl ?_
  refine V.iaload_n C (n := 6) (q0 := 1) (t0 := 0) (i := f) rfl rfl (by omega) (by decide) d_T_touches_5 rfl ?_
  have b_1 := hsd (f)
  refine V.iload_n C (n := 7) (j := 2) d_T_touches_6 rfl rfl rfl ?_
  refine V.icmpn_eq C (tgt := 19) (n := 10) (by omega) (by omega) d_T_touches_7 (by decide) rfl (fun c7_1 => ?_) (fun c7_1 => ?_)
  · refine V.iconst C (v := nI 1) (n := 20) d_T_touches_19 (by decide) rfl ?_
    refine V.goto C (n := 24) d_T_touches_20 (by decide) ?_
    exact V.zret C hr (bI_nar _) d_T_touches_24 (by first | exact bI_1 (by omega) | exact bI_0 (by omega)) (rfl)
  · refine V.aload_n C (n := 11) (j := 0) d_T_touches_10 rfl rfl rfl ?_
    refine V.iload_n C (n := 12) (j := 1) d_T_touches_11 rfl rfl rfl ?_
    refine V.iload_n C (n := 13) (j := 2) d_T_touches_12 rfl rfl rfl ?_
    refine V.callV_i C (n := 16) (ws' := (TabW a cI sd pd rk gp of to n)) (c_T_reads l D cI cC E (a) (sd) (pd) (rk) (gp) (of) (to) (n) (f) (k) (by first | assumption | omega) (by first | assumption | omega) (by first | assumption | omega)) cw_T_46 [0, 1, 2, 3, 4, 5, 6] [] [0, 1, 2, 3, 4, 5, 6] (qr := 0) rfl rfl rfl (of_decide_eq_true rfl) rfl (of_decide_eq_true rfl) rfl (of_decide_eq_true rfl) rfl (of_decide_eq_true rfl) rfl ⟨rfl, rfl⟩ ⟨by decide, by decide⟩ ⟨by decide, by decide⟩ rfl rfl (of_decide_eq_true rfl) d_T_touches_13 rfl ?_
    refine V.ifb_eq C (tgt := 23) (n := 19) d_T_touches_16 (by decide) rfl (fun c16_2 => ?_) (fun c16_2 => ?_)
    · refine V.iconst C (v := nI 0) (n := 24) d_T_touches_23 (by decide) rfl ?_
      exact V.zret C hr (bI_nar _) d_T_touches_24 (by first | exact bI_1 (by omega) | exact bI_0 (by omega)) (rfl)
    · refine V.iconst C (v := nI 1) (n := 20) d_T_touches_19 (by decide) rfl ?_
      refine V.goto C (n := 24) d_T_touches_20 (by decide) ?_
      exact V.zret C hr (bI_nar _) d_T_touches_24 (by first | exact bI_1 (by omega) | exact bI_0 (by omega)) (rfl)
set_option maxHeartbeats 4000000 in
set_option maxRecDepth 100000 in
theorem c_T_readersOf (l : Launch) (D : va_G) (cI cC : ClassId) (E : Nat → Nat) (a : Nat → Nat) (sd pd rk gp of to : Nat → Nat) (n : Nat) (f : Nat) (hT : TabOK sd pd rk gp of to n) (hf : f ≤ 40) : CI l D (TY cI cC E) m_T_readersOf (rmD 2) [.ref (a 0), .int (nI f)] ((TabW a cI sd pd rk gp of to n)) (nI (cntB (fun k => decide (0 < to (f * 21 + k))) 20)) ((TabW a cI sd pd rk gp of to n)) := by
  obtain ⟨hn, hsd, hpd, hrk, hgp, hof, hto⟩ := id hT
  refine CI.of (by decide +kernel) (of_decide_eq_true rfl) ?_
  intro p e s m args below meth c C hr
  refine V.iconst C (v := nI 0) (n := 1) d_T_readersOf_0 (by decide) rfl ?_
  refine V.istore_n C (n := 2) (lv' := [(0, .ref (a 0)), (1, .int (nI f)), (2, .int (nI 0))]) [1, 2, 0] d_T_readersOf_1 rfl (by decide) rfl rfl ?_
  refine V.iconst C (v := nI 1) (n := 3) d_T_readersOf_2 (by decide) rfl ?_
  refine V.istore_n C (n := 4) (lv' := [(0, .ref (a 0)), (1, .int (nI f)), (2, .int (nI 0)), (3, .int (nI 1))]) [1, 2, 3, 0] d_T_readersOf_3 rfl (by decide) rfl rfl ?_
  refine V.ind2 C (fun (j : Nat) (ac : Nat) => (TabW a cI sd pd rk gp of to n)) (fun (j : Nat) (ac : Nat) => [(0, .ref (a 0)), (1, .int (nI f)), (2, .int (nI ac)), (3, .int (nI (j + 1)))]) (fun (j : Nat) (ac : Nat) => (j ≤ 20) ∧ (ac = cntB (fun k => decide (0 < to (f * 21 + k))) j) ∧ (ac ≤ j)) (fun (j : Nat) (ac : Nat) => 20 - j) (0) (0) ⟨by omega, rfl, by omega⟩ rfl rfl ?_
  rintro j ac ⟨hj, ha, hb⟩ ih4
  try dsimp only
  refine V.iload_n C (n := 5) (j := 3) d_T_readersOf_4 rfl rfl rfl ?_
  refine V.bipush C (v := nI 20) (n := 7) d_T_readersOf_5 (by decide) rfl ?_
  refine V.icmpn_gt C (tgt := 28) (n := 10) (by omega) (by omega) d_T_readersOf_7 (by decide) rfl (fun c7_1 => ?_) (fun c7_1 => ?_)
  · refine V.iload_n C (n := 29) (j := 2) d_T_readersOf_28 rfl rfl rfl ?_
    exact V.iret C hr d_T_readersOf_29 (by rw [ha, show j = 20 by omega]) (rfl)
  · refine V.aload_n C (n := 11) (j := 0) d_T_readersOf_10 rfl rfl rfl ?_
    refine V.iload_n C (n := 12) (j := 1) d_T_readersOf_11 rfl rfl rfl ?_
    refine V.iload_n C (n := 13) (j := 3) d_T_readersOf_12 rfl rfl rfl ?_
    refine V.callV_i C (n := 16) (ws' := (TabW a cI sd pd rk gp of to n)) (c_T_reads l D cI cC E (a) (sd) (pd) (rk) (gp) (of) (to) (n) (f) (j + 1) (by first | assumption | omega) (by first | assumption | omega) (by first | assumption | omega)) cw_T_46 [0, 1, 2, 3, 4, 5, 6] [] [0, 1, 2, 3, 4, 5, 6] (qr := 0) rfl rfl rfl (of_decide_eq_true rfl) rfl (of_decide_eq_true rfl) rfl (of_decide_eq_true rfl) rfl (of_decide_eq_true rfl) rfl ⟨rfl, rfl⟩ ⟨by decide, by decide⟩ ⟨by decide, by decide⟩ rfl rfl (of_decide_eq_true rfl) d_T_readersOf_13 rfl ?_
    refine V.ifb_eq C (tgt := 22) (n := 19) d_T_readersOf_16 (by decide) rfl (fun c16_2 => ?_) (fun c16_2 => ?_)
    · refine V.iinc C (n := 25) (j := 3) (v := nI (j + 1 + 1)) (lv' := [(0, .ref (a 0)), (1, .int (nI f)), (2, .int (nI ac)), (3, .int (nI (j + 1 + 1)))]) [1, 2, 3, 0] d_T_readersOf_22 rfl (nI_inc (j + 1) 1) (by decide) rfl rfl ?_
      refine V.goto C (n := 4) d_T_readersOf_25 (by decide) ?_
      exact ih4 (j + 1) (ac) ⟨by omega, by first | (rw [ha]; exact (cntB_s1 (decide_eq_true (by omega))).symm) | (rw [ha]; exact (cntB_s0 (by simp only [decide_eq_true_eq]; omega)).symm), by omega⟩ (by omega)
    · refine V.iinc C (n := 22) (j := 2) (v := nI (ac + 1)) (lv' := [(0, .ref (a 0)), (1, .int (nI f)), (2, .int (nI (ac + 1))), (3, .int (nI (j + 1)))]) [1, 2, 0, 3] d_T_readersOf_19 rfl (nI_inc (ac) 1) (by decide) rfl rfl ?_
      refine V.iinc C (n := 25) (j := 3) (v := nI (j + 1 + 1)) (lv' := [(0, .ref (a 0)), (1, .int (nI f)), (2, .int (nI (ac + 1))), (3, .int (nI (j + 1 + 1)))]) [1, 2, 3, 0] d_T_readersOf_22 rfl (nI_inc (j + 1) 1) (by decide) rfl rfl ?_
      refine V.goto C (n := 4) d_T_readersOf_25 (by decide) ?_
      exact ih4 (j + 1) (ac + 1) ⟨by omega, by first | (rw [ha]; exact (cntB_s1 (decide_eq_true (by omega))).symm) | (rw [ha]; exact (cntB_s0 (by simp only [decide_eq_true_eq]; omega)).symm), by omega⟩ (by omega)
set_option maxHeartbeats 4000000 in
set_option maxRecDepth 100000 in
theorem c_T_comesBefore (l : Launch) (D : va_G) (cI cC : ClassId) (E : Nat → Nat) (a : Nat → Nat) (sd pd rk gp of to : Nat → Nat) (n : Nat) (o f : Nat) (hT : TabOK sd pd rk gp of to n) (ho : o ≤ 40) (hf : f ≤ 40) : CI l D (TY cI cC E) m_T_comesBefore (rmD 0) [.ref (a 0), .int (nI o), .int (nI f)] ((TabW a cI sd pd rk gp of to n)) (bI (rk o < rk f ∨ (rk o = rk f ∧ o < f))) ((TabW a cI sd pd rk gp of to n)) := by
  obtain ⟨hn, hsd, hpd, hrk, hgp, hof, hto⟩ := id hT
  refine CI.of (by decide +kernel) (of_decide_eq_true rfl) ?_
  intro p e s m args below meth c C hr
  refine V.aload_n C (n := 1) (j := 0) d_T_comesBefore_0 rfl rfl rfl ?_
  refine V.get C (n := 4) (q0 := 0) (k0 := 2) clOk_1 rfl (by decide) rfl fl_T_18 rfl d_T_comesBefore_1 rfl ?_
  refine V.iload_n C (n := 5) (j := 1) d_T_comesBefore_4 rfl rfl rfl ?_
  refine V.iaload_n C (n := 6) (q0 := 3) (t0 := 0) (i := o) rfl rfl (by omega) (by decide) d_T_comesBefore_5 rfl ?_
  have b_1 := hrk (o)
  refine V.aload_n C (n := 7) (j := 0) d_T_comesBefore_6 rfl rfl rfl ?_
  refine V.get C (n := 10) (q0 := 0) (k0 := 2) clOk_1 rfl (by decide) rfl fl_T_18 rfl d_T_comesBefore_7 rfl ?_
  refine V.iload_n C (n := 11) (j := 2) d_T_comesBefore_10 rfl rfl rfl ?_
  refine V.iaload_n C (n := 12) (q0 := 3) (t0 := 0) (i := f) rfl rfl (by omega) (by decide) d_T_comesBefore_11 rfl ?_
  have b_2 := hrk (f)
  refine V.icmpn_lt C (tgt := 35) (n := 15) (by omega) (by omega) d_T_comesBefore_12 (by decide) rfl (fun c12_1 => ?_) (fun c12_1 => ?_)
  · refine V.iconst C (v := nI 1) (n := 36) d_T_comesBefore_35 (by decide) rfl ?_
    refine V.goto C (n := 40) d_T_comesBefore_36 (by decide) ?_
    exact V.zret C hr (bI_nar _) d_T_comesBefore_40 (by first | exact bI_1 (by omega) | exact bI_0 (by omega)) (rfl)
  · refine V.aload_n C (n := 16) (j := 0) d_T_comesBefore_15 rfl rfl rfl ?_
    refine V.get C (n := 19) (q0 := 0) (k0 := 2) clOk_1 rfl (by decide) rfl fl_T_18 rfl d_T_comesBefore_16 rfl ?_
    refine V.iload_n C (n := 20) (j := 1) d_T_comesBefore_19 rfl rfl rfl ?_
    refine V.iaload_n C (n := 21) (q0 := 3) (t0 := 0) (i := o) rfl rfl (by omega) (by decide) d_T_comesBefore_20 rfl ?_
    have b_3 := hrk (o)
    refine V.aload_n C (n := 22) (j := 0) d_T_comesBefore_21 rfl rfl rfl ?_
    refine V.get C (n := 25) (q0 := 0) (k0 := 2) clOk_1 rfl (by decide) rfl fl_T_18 rfl d_T_comesBefore_22 rfl ?_
    refine V.iload_n C (n := 26) (j := 2) d_T_comesBefore_25 rfl rfl rfl ?_
    refine V.iaload_n C (n := 27) (q0 := 3) (t0 := 0) (i := f) rfl rfl (by omega) (by decide) d_T_comesBefore_26 rfl ?_
    have b_4 := hrk (f)
    refine V.icmpn_ne C (tgt := 39) (n := 30) (by omega) (by omega) d_T_comesBefore_27 (by decide) rfl (fun c27_2 => ?_) (fun c27_2 => ?_)
    · refine V.iconst C (v := nI 0) (n := 40) d_T_comesBefore_39 (by decide) rfl ?_
      exact V.zret C hr (bI_nar _) d_T_comesBefore_40 (by first | exact bI_1 (by omega) | exact bI_0 (by omega)) (rfl)
    · refine V.iload_n C (n := 31) (j := 1) d_T_comesBefore_30 rfl rfl rfl ?_
      refine V.iload_n C (n := 32) (j := 2) d_T_comesBefore_31 rfl rfl rfl ?_
      refine V.icmpn_ge C (tgt := 39) (n := 35) (by omega) (by omega) d_T_comesBefore_32 (by decide) rfl (fun c32_3 => ?_) (fun c32_3 => ?_)
      · refine V.iconst C (v := nI 0) (n := 40) d_T_comesBefore_39 (by decide) rfl ?_
        exact V.zret C hr (bI_nar _) d_T_comesBefore_40 (by first | exact bI_1 (by omega) | exact bI_0 (by omega)) (rfl)
      · refine V.iconst C (v := nI 1) (n := 36) d_T_comesBefore_35 (by decide) rfl ?_
        refine V.goto C (n := 40) d_T_comesBefore_36 (by decide) ?_
        exact V.zret C hr (bI_nar _) d_T_comesBefore_40 (by first | exact bI_1 (by omega) | exact bI_0 (by omega)) (rfl)
set_option maxHeartbeats 4000000 in
set_option maxRecDepth 100000 in
theorem c_T_placeInKind (l : Launch) (D : va_G) (cI cC : ClassId) (E : Nat → Nat) (a : Nat → Nat) (sd pd rk gp of to : Nat → Nat) (n : Nat) (f : Nat) (hT : TabOK sd pd rk gp of to n) (hf : f ≤ 40) : CI l D (TY cI cC E) m_T_placeInKind (rmD 2) [.ref (a 0), .int (nI f)] ((TabW a cI sd pd rk gp of to n)) (nI (cntB (fun k => decide (rk k / 25 = rk f / 25 ∧ (rk k < rk f ∨ (rk k = rk f ∧ k < f)))) n)) ((TabW a cI sd pd rk gp of to n)) := by
  obtain ⟨hn, hsd, hpd, hrk, hgp, hof, hto⟩ := id hT
  refine CI.of (by decide +kernel) (of_decide_eq_true rfl) ?_
  intro p e s m args below meth c C hr
  refine V.iconst C (v := nI 0) (n := 1) d_T_placeInKind_0 (by decide) rfl ?_
  refine V.istore_n C (n := 2) (lv' := [(0, .ref (a 0)), (1, .int (nI f)), (2, .int (nI 0))]) [1, 2, 0] d_T_placeInKind_1 rfl (by decide) rfl rfl ?_
  refine V.iconst C (v := nI 1) (n := 3) d_T_placeInKind_2 (by decide) rfl ?_
  refine V.istore_n C (n := 4) (lv' := [(0, .ref (a 0)), (1, .int (nI f)), (2, .int (nI 0)), (3, .int (nI 1))]) [1, 2, 3, 0] d_T_placeInKind_3 rfl (by decide) rfl rfl ?_
  refine V.ind2 C (fun (j : Nat) (ac : Nat) => (TabW a cI sd pd rk gp of to n)) (fun (j : Nat) (ac : Nat) => [(0, .ref (a 0)), (1, .int (nI f)), (2, .int (nI ac)), (3, .int (nI (j + 1)))]) (fun (j : Nat) (ac : Nat) => (j ≤ n) ∧ (ac = cntB (fun k => decide (rk k / 25 = rk f / 25 ∧ (rk k < rk f ∨ (rk k = rk f ∧ k < f)))) j) ∧ (ac ≤ j)) (fun (j : Nat) (ac : Nat) => n - j) (0) (0) ⟨by omega, rfl, by omega⟩ rfl rfl ?_
  rintro j ac ⟨hj, ha, hb⟩ ih4
  try dsimp only
  refine V.iload_n C (n := 5) (j := 3) d_T_placeInKind_4 rfl rfl rfl ?_
  refine V.aload_n C (n := 6) (j := 0) d_T_placeInKind_5 rfl rfl rfl ?_
  refine V.get C (n := 9) (q0 := 0) (k0 := 6) clOk_1 rfl (by decide) rfl fl_T_30 rfl d_T_placeInKind_6 rfl ?_
  refine V.icmpn_gt C (tgt := 43) (n := 12) (by omega) (by omega) d_T_placeInKind_9 (by decide) rfl (fun c9_1 => ?_) (fun c9_1 => ?_)
  · refine V.iload_n C (n := 44) (j := 2) d_T_placeInKind_43 rfl rfl rfl ?_
    exact V.iret C hr d_T_placeInKind_44 (by rw [ha, show j = n by omega]) (rfl)
  · refine V.aload_n C (n := 13) (j := 0) d_T_placeInKind_12 rfl rfl rfl ?_
    refine V.iload_n C (n := 14) (j := 3) d_T_placeInKind_13 rfl rfl rfl ?_
    refine V.callV_i C (n := 17) (ws' := (TabW a cI sd pd rk gp of to n)) (c_T_kindOf l D cI cC E (a) (sd) (pd) (rk) (gp) (of) (to) (n) (j + 1) (by first | assumption | omega) (by first | assumption | omega)) cw_T_50 [0, 1, 2, 3, 4, 5, 6] [] [0, 1, 2, 3, 4, 5, 6] (qr := 0) rfl rfl rfl (of_decide_eq_true rfl) rfl (of_decide_eq_true rfl) rfl (of_decide_eq_true rfl) rfl (of_decide_eq_true rfl) rfl ⟨rfl, rfl⟩ ⟨by decide, by decide⟩ ⟨by decide, by decide⟩ rfl rfl (of_decide_eq_true rfl) d_T_placeInKind_14 rfl ?_
    have b_1 := hrk ((j + 1))
    refine V.aload_n C (n := 18) (j := 0) d_T_placeInKind_17 rfl rfl rfl ?_
    refine V.iload_n C (n := 19) (j := 1) d_T_placeInKind_18 rfl rfl rfl ?_
    refine V.callV_i C (n := 22) (ws' := (TabW a cI sd pd rk gp of to n)) (c_T_kindOf l D cI cC E (a) (sd) (pd) (rk) (gp) (of) (to) (n) (f) (by first | assumption | omega) (by first | assumption | omega)) cw_T_50 [0, 1, 2, 3, 4, 5, 6] [] [0, 1, 2, 3, 4, 5, 6] (qr := 0) rfl rfl rfl (of_decide_eq_true rfl) rfl (of_decide_eq_true rfl) rfl (of_decide_eq_true rfl) rfl (of_decide_eq_true rfl) rfl ⟨rfl, rfl⟩ ⟨by decide, by decide⟩ ⟨by decide, by decide⟩ rfl rfl (of_decide_eq_true rfl) d_T_placeInKind_19 rfl ?_
    have b_2 := hrk (f)
    refine V.icmpn_ne C (tgt := 37) (n := 25) (by omega) (by omega) d_T_placeInKind_22 (by decide) rfl (fun c22_2 => ?_) (fun c22_2 => ?_)
    · refine V.iinc C (n := 40) (j := 3) (v := nI (j + 1 + 1)) (lv' := [(0, .ref (a 0)), (1, .int (nI f)), (2, .int (nI ac)), (3, .int (nI (j + 1 + 1)))]) [1, 2, 3, 0] d_T_placeInKind_37 rfl (nI_inc (j + 1) 1) (by decide) rfl rfl ?_
      refine V.goto C (n := 4) d_T_placeInKind_40 (by decide) ?_
      exact ih4 (j + 1) (ac) ⟨by omega, by first | (rw [ha]; exact (cntB_s1 (decide_eq_true (by omega))).symm) | (rw [ha]; exact (cntB_s0 (by simp only [decide_eq_true_eq]; omega)).symm), by omega⟩ (by omega)
    · refine V.aload_n C (n := 26) (j := 0) d_T_placeInKind_25 rfl rfl rfl ?_
      refine V.iload_n C (n := 27) (j := 3) d_T_placeInKind_26 rfl rfl rfl ?_
      refine V.iload_n C (n := 28) (j := 1) d_T_placeInKind_27 rfl rfl rfl ?_
      refine V.callV_i C (n := 31) (ws' := (TabW a cI sd pd rk gp of to n)) (c_T_comesBefore l D cI cC E (a) (sd) (pd) (rk) (gp) (of) (to) (n) (j + 1) (f) (by first | assumption | omega) (by first | assumption | omega) (by first | assumption | omega)) cw_T_54 [0, 1, 2, 3, 4, 5, 6] [] [0, 1, 2, 3, 4, 5, 6] (qr := 0) rfl rfl rfl (of_decide_eq_true rfl) rfl (of_decide_eq_true rfl) rfl (of_decide_eq_true rfl) rfl (of_decide_eq_true rfl) rfl ⟨rfl, rfl⟩ ⟨by decide, by decide⟩ ⟨by decide, by decide⟩ rfl rfl (of_decide_eq_true rfl) d_T_placeInKind_28 rfl ?_
      refine V.ifb_eq C (tgt := 37) (n := 34) d_T_placeInKind_31 (by decide) rfl (fun c31_3 => ?_) (fun c31_3 => ?_)
      · refine V.iinc C (n := 40) (j := 3) (v := nI (j + 1 + 1)) (lv' := [(0, .ref (a 0)), (1, .int (nI f)), (2, .int (nI ac)), (3, .int (nI (j + 1 + 1)))]) [1, 2, 3, 0] d_T_placeInKind_37 rfl (nI_inc (j + 1) 1) (by decide) rfl rfl ?_
        refine V.goto C (n := 4) d_T_placeInKind_40 (by decide) ?_
        exact ih4 (j + 1) (ac) ⟨by omega, by first | (rw [ha]; exact (cntB_s1 (decide_eq_true (by omega))).symm) | (rw [ha]; exact (cntB_s0 (by simp only [decide_eq_true_eq]; omega)).symm), by omega⟩ (by omega)
      · refine V.iinc C (n := 37) (j := 2) (v := nI (ac + 1)) (lv' := [(0, .ref (a 0)), (1, .int (nI f)), (2, .int (nI (ac + 1))), (3, .int (nI (j + 1)))]) [1, 2, 0, 3] d_T_placeInKind_34 rfl (nI_inc (ac) 1) (by decide) rfl rfl ?_
        refine V.iinc C (n := 40) (j := 3) (v := nI (j + 1 + 1)) (lv' := [(0, .ref (a 0)), (1, .int (nI f)), (2, .int (nI (ac + 1))), (3, .int (nI (j + 1 + 1)))]) [1, 2, 3, 0] d_T_placeInKind_37 rfl (nI_inc (j + 1) 1) (by decide) rfl rfl ?_
        refine V.goto C (n := 4) d_T_placeInKind_40 (by decide) ?_
        exact ih4 (j + 1) (ac + 1) ⟨by omega, by first | (rw [ha]; exact (cntB_s1 (decide_eq_true (by omega))).symm) | (rw [ha]; exact (cntB_s0 (by simp only [decide_eq_true_eq]; omega)).symm), by omega⟩ (by omega)
set_option maxHeartbeats 4000000 in
set_option maxRecDepth 100000 in
theorem c_T_hasShortTimeout (l : Launch) (D : va_G) (cI cC : ClassId) (E : Nat → Nat) (a : Nat → Nat) (sd pd rk gp of to : Nat → Nat) (n : Nat) (f : Nat) (hT : TabOK sd pd rk gp of to n) (hf : f ≤ 40) : CI l D (TY cI cC E) m_T_hasShortTimeout (rmD 2) [.ref (a 0), .int (nI f)] ((TabW a cI sd pd rk gp of to n)) (bI (anyB (fun k => decide (0 < to (f * 21 + k) ∧ to (f * 21 + k) < pd f)) 20 = true)) ((TabW a cI sd pd rk gp of to n)) := by
  obtain ⟨hn, hsd, hpd, hrk, hgp, hof, hto⟩ := id hT
  refine CI.of (by decide +kernel) (of_decide_eq_true rfl) ?_
  intro p e s m args below meth c C hr
  refine V.iconst C (v := nI 1) (n := 1) d_T_hasShortTimeout_0 (by decide) rfl ?_
  refine V.istore_n C (n := 2) (lv' := [(0, .ref (a 0)), (1, .int (nI f)), (2, .int (nI 1))]) [1, 2, 0] d_T_hasShortTimeout_1 rfl (by decide) rfl rfl ?_
  refine V.ind1 C (fun (j : Nat) => (TabW a cI sd pd rk gp of to n)) (fun (j : Nat) => [(0, .ref (a 0)), (1, .int (nI f)), (2, .int (nI (j + 1)))]) (fun (j : Nat) => (j ≤ 20) ∧ (anyB (fun k => decide (0 < to (f * 21 + k) ∧ to (f * 21 + k) < pd f)) j = false)) (fun (j : Nat) => 20 - j) (0) ⟨by omega, rfl⟩ rfl rfl ?_
  rintro j ⟨hj, ha⟩ ih2
  try dsimp only
  refine V.iload_n C (n := 3) (j := 2) d_T_hasShortTimeout_2 rfl rfl rfl ?_
  refine V.bipush C (v := nI 20) (n := 5) d_T_hasShortTimeout_3 (by decide) rfl ?_
  refine V.icmpn_gt C (tgt := 40) (n := 8) (by omega) (by omega) d_T_hasShortTimeout_5 (by decide) rfl (fun c5_1 => ?_) (fun c5_1 => ?_)
  · refine V.iconst C (v := nI 0) (n := 41) d_T_hasShortTimeout_40 (by decide) rfl ?_
    exact V.zret C hr (bI_nar _) d_T_hasShortTimeout_41 (bI_0 (by rw [show j = 20 by omega] at ha; rw [ha]; decide)) (rfl)
  · refine V.aload_n C (n := 9) (j := 0) d_T_hasShortTimeout_8 rfl rfl rfl ?_
    refine V.iload_n C (n := 10) (j := 1) d_T_hasShortTimeout_9 rfl rfl rfl ?_
    refine V.iload_n C (n := 11) (j := 2) d_T_hasShortTimeout_10 rfl rfl rfl ?_
    refine V.callV_i C (n := 14) (ws' := (TabW a cI sd pd rk gp of to n)) (c_T_reads l D cI cC E (a) (sd) (pd) (rk) (gp) (of) (to) (n) (f) (j + 1) (by first | assumption | omega) (by first | assumption | omega) (by first | assumption | omega)) cw_T_46 [0, 1, 2, 3, 4, 5, 6] [] [0, 1, 2, 3, 4, 5, 6] (qr := 0) rfl rfl rfl (of_decide_eq_true rfl) rfl (of_decide_eq_true rfl) rfl (of_decide_eq_true rfl) rfl (of_decide_eq_true rfl) rfl ⟨rfl, rfl⟩ ⟨by decide, by decide⟩ ⟨by decide, by decide⟩ rfl rfl (of_decide_eq_true rfl) d_T_hasShortTimeout_11 rfl ?_
    refine V.ifb_eq C (tgt := 34) (n := 17) d_T_hasShortTimeout_14 (by decide) rfl (fun c14_2 => ?_) (fun c14_2 => ?_)
    · refine V.iinc C (n := 37) (j := 2) (v := nI (j + 1 + 1)) (lv' := [(0, .ref (a 0)), (1, .int (nI f)), (2, .int (nI (j + 1 + 1)))]) [1, 2, 0] d_T_hasShortTimeout_34 rfl (nI_inc (j + 1) 1) (by decide) rfl rfl ?_
      refine V.goto C (n := 2) d_T_hasShortTimeout_37 (by decide) ?_
      exact ih2 (j + 1) ⟨by omega, anyB_s ha (by simp only [decide_eq_true_eq]; omega)⟩ (by omega)
    · refine V.aload_n C (n := 18) (j := 0) d_T_hasShortTimeout_17 rfl rfl rfl ?_
      refine V.iload_n C (n := 19) (j := 1) d_T_hasShortTimeout_18 rfl rfl rfl ?_
      refine V.iload_n C (n := 20) (j := 2) d_T_hasShortTimeout_19 rfl rfl rfl ?_
      refine V.callV_i C (n := 23) (ws' := (TabW a cI sd pd rk gp of to n)) (c_T_timeoutOf l D cI cC E (a) (sd) (pd) (rk) (gp) (of) (to) (n) (f) (j + 1) (by first | assumption | omega) (by first | assumption | omega) (by first | assumption | omega)) cw_T_42 [0, 1, 2, 3, 4, 5, 6] [] [0, 1, 2, 3, 4, 5, 6] (qr := 0) rfl rfl rfl (of_decide_eq_true rfl) rfl (of_decide_eq_true rfl) rfl (of_decide_eq_true rfl) rfl (of_decide_eq_true rfl) rfl ⟨rfl, rfl⟩ ⟨by decide, by decide⟩ ⟨by decide, by decide⟩ rfl rfl (of_decide_eq_true rfl) d_T_hasShortTimeout_20 rfl ?_
      have b_1 := hto (f * 21 + (j + 1))
      refine V.aload_n C (n := 24) (j := 0) d_T_hasShortTimeout_23 rfl rfl rfl ?_
      refine V.get C (n := 27) (q0 := 0) (k0 := 1) clOk_1 rfl (by decide) rfl fl_T_15 rfl d_T_hasShortTimeout_24 rfl ?_
      refine V.iload_n C (n := 28) (j := 1) d_T_hasShortTimeout_27 rfl rfl rfl ?_
      refine V.iaload_n C (n := 29) (q0 := 2) (t0 := 0) (i := f) rfl rfl (by omega) (by decide) d_T_hasShortTimeout_28 rfl ?_
      have b_2 := hpd (f)
      refine V.icmpn_ge C (tgt := 34) (n := 32) (by omega) (by omega) d_T_hasShortTimeout_29 (by decide) rfl (fun c29_3 => ?_) (fun c29_3 => ?_)
      · refine V.iinc C (n := 37) (j := 2) (v := nI (j + 1 + 1)) (lv' := [(0, .ref (a 0)), (1, .int (nI f)), (2, .int (nI (j + 1 + 1)))]) [1, 2, 0] d_T_hasShortTimeout_34 rfl (nI_inc (j + 1) 1) (by decide) rfl rfl ?_
        refine V.goto C (n := 2) d_T_hasShortTimeout_37 (by decide) ?_
        exact ih2 (j + 1) ⟨by omega, anyB_s ha (by simp only [decide_eq_true_eq]; omega)⟩ (by omega)
      · refine V.iconst C (v := nI 1) (n := 33) d_T_hasShortTimeout_32 (by decide) rfl ?_
        exact V.zret C hr (bI_nar _) d_T_hasShortTimeout_33 (bI_1 (anyB_hit (k := j + 1) (by omega) (by omega) (decide_eq_true (by omega)))) (rfl)
set_option maxHeartbeats 4000000 in
set_option maxRecDepth 100000 in
theorem c_T_repeatsAnEarlierOne (l : Launch) (D : va_G) (cI cC : ClassId) (E : Nat → Nat) (a : Nat → Nat) (sd pd rk gp of to : Nat → Nat) (n : Nat) (f : Nat) (hT : TabOK sd pd rk gp of to n) (hf : f ≤ 40) : CI l D (TY cI cC E) m_T_repeatsAnEarlierOne (rmD 0) [.ref (a 0), .int (nI f)] ((TabW a cI sd pd rk gp of to n)) (bI (anyB (fun k => decide (sd k = sd f ∧ pd k = pd f ∧ rk k = rk f)) (f - 1) = true)) ((TabW a cI sd pd rk gp of to n)) := by
  obtain ⟨hn, hsd, hpd, hrk, hgp, hof, hto⟩ := id hT
  refine CI.of (by decide +kernel) (of_decide_eq_true rfl) ?_
  intro p e s m args below meth c C hr
  refine V.iconst C (v := nI 1) (n := 1) d_T_repeatsAnEarlierOne_0 (by decide) rfl ?_
  refine V.istore_n C (n := 2) (lv' := [(0, .ref (a 0)), (1, .int (nI f)), (2, .int (nI 1))]) [1, 2, 0] d_T_repeatsAnEarlierOne_1 rfl (by decide) rfl rfl ?_
  refine V.ind1 C (fun (j : Nat) => (TabW a cI sd pd rk gp of to n)) (fun (j : Nat) => [(0, .ref (a 0)), (1, .int (nI f)), (2, .int (nI (j + 1)))]) (fun (j : Nat) => (j ≤ f) ∧ (anyB (fun k => decide (sd k = sd f ∧ pd k = pd f ∧ rk k = rk f)) j = false)) (fun (j : Nat) => f - j) (0) ⟨by omega, rfl⟩ rfl rfl ?_
  rintro j ⟨hj, ha⟩ ih2
  try dsimp only
  refine V.iload_n C (n := 3) (j := 2) d_T_repeatsAnEarlierOne_2 rfl rfl rfl ?_
  refine V.iload_n C (n := 4) (j := 1) d_T_repeatsAnEarlierOne_3 rfl rfl rfl ?_
  refine V.icmpn_ge C (tgt := 60) (n := 7) (by omega) (by omega) d_T_repeatsAnEarlierOne_4 (by decide) rfl (fun c4_1 => ?_) (fun c4_1 => ?_)
  · refine V.iconst C (v := nI 0) (n := 61) d_T_repeatsAnEarlierOne_60 (by decide) rfl ?_
    exact V.zret C hr (bI_nar _) d_T_repeatsAnEarlierOne_61 (bI_0 (fun q => by rw [anyB_mono (show f - 1 ≤ j by omega) q] at ha; exact absurd ha (by decide))) (rfl)
  · refine V.aload_n C (n := 8) (j := 0) d_T_repeatsAnEarlierOne_7 rfl rfl rfl ?_
    refine V.get C (n := 11) (q0 := 0) (k0 := 0) clOk_1 rfl (by decide) rfl fl_T_9 rfl d_T_repeatsAnEarlierOne_8 rfl ?_
    refine V.iload_n C (n := 12) (j := 2) d_T_repeatsAnEarlierOne_11 rfl rfl rfl ?_
    refine V.iaload_n C (n := 13) (q0 := 1) (t0 := 0) (i := j + 1) rfl rfl (by omega) (by decide) d_T_repeatsAnEarlierOne_12 rfl ?_
    have b_1 := hsd (j + 1)
    refine V.aload_n C (n := 14) (j := 0) d_T_repeatsAnEarlierOne_13 rfl rfl rfl ?_
    refine V.get C (n := 17) (q0 := 0) (k0 := 0) clOk_1 rfl (by decide) rfl fl_T_9 rfl d_T_repeatsAnEarlierOne_14 rfl ?_
    refine V.iload_n C (n := 18) (j := 1) d_T_repeatsAnEarlierOne_17 rfl rfl rfl ?_
    refine V.iaload_n C (n := 19) (q0 := 1) (t0 := 0) (i := f) rfl rfl (by omega) (by decide) d_T_repeatsAnEarlierOne_18 rfl ?_
    have b_2 := hsd (f)
    refine V.icmpn_ne C (tgt := 54) (n := 22) (by omega) (by omega) d_T_repeatsAnEarlierOne_19 (by decide) rfl (fun c19_2 => ?_) (fun c19_2 => ?_)
    · refine V.iinc C (n := 57) (j := 2) (v := nI (j + 1 + 1)) (lv' := [(0, .ref (a 0)), (1, .int (nI f)), (2, .int (nI (j + 1 + 1)))]) [1, 2, 0] d_T_repeatsAnEarlierOne_54 rfl (nI_inc (j + 1) 1) (by decide) rfl rfl ?_
      refine V.goto C (n := 2) d_T_repeatsAnEarlierOne_57 (by decide) ?_
      exact ih2 (j + 1) ⟨by omega, anyB_s ha (by simp only [decide_eq_true_eq]; omega)⟩ (by omega)
    · refine V.aload_n C (n := 23) (j := 0) d_T_repeatsAnEarlierOne_22 rfl rfl rfl ?_
      refine V.get C (n := 26) (q0 := 0) (k0 := 1) clOk_1 rfl (by decide) rfl fl_T_15 rfl d_T_repeatsAnEarlierOne_23 rfl ?_
      refine V.iload_n C (n := 27) (j := 2) d_T_repeatsAnEarlierOne_26 rfl rfl rfl ?_
      refine V.iaload_n C (n := 28) (q0 := 2) (t0 := 0) (i := j + 1) rfl rfl (by omega) (by decide) d_T_repeatsAnEarlierOne_27 rfl ?_
      have b_3 := hpd (j + 1)
      refine V.aload_n C (n := 29) (j := 0) d_T_repeatsAnEarlierOne_28 rfl rfl rfl ?_
      refine V.get C (n := 32) (q0 := 0) (k0 := 1) clOk_1 rfl (by decide) rfl fl_T_15 rfl d_T_repeatsAnEarlierOne_29 rfl ?_
      refine V.iload_n C (n := 33) (j := 1) d_T_repeatsAnEarlierOne_32 rfl rfl rfl ?_
      refine V.iaload_n C (n := 34) (q0 := 2) (t0 := 0) (i := f) rfl rfl (by omega) (by decide) d_T_repeatsAnEarlierOne_33 rfl ?_
      have b_4 := hpd (f)
      refine V.icmpn_ne C (tgt := 54) (n := 37) (by omega) (by omega) d_T_repeatsAnEarlierOne_34 (by decide) rfl (fun c34_3 => ?_) (fun c34_3 => ?_)
      · refine V.iinc C (n := 57) (j := 2) (v := nI (j + 1 + 1)) (lv' := [(0, .ref (a 0)), (1, .int (nI f)), (2, .int (nI (j + 1 + 1)))]) [1, 2, 0] d_T_repeatsAnEarlierOne_54 rfl (nI_inc (j + 1) 1) (by decide) rfl rfl ?_
        refine V.goto C (n := 2) d_T_repeatsAnEarlierOne_57 (by decide) ?_
        exact ih2 (j + 1) ⟨by omega, anyB_s ha (by simp only [decide_eq_true_eq]; omega)⟩ (by omega)
      · refine V.aload_n C (n := 38) (j := 0) d_T_repeatsAnEarlierOne_37 rfl rfl rfl ?_
        refine V.get C (n := 41) (q0 := 0) (k0 := 2) clOk_1 rfl (by decide) rfl fl_T_18 rfl d_T_repeatsAnEarlierOne_38 rfl ?_
        refine V.iload_n C (n := 42) (j := 2) d_T_repeatsAnEarlierOne_41 rfl rfl rfl ?_
        refine V.iaload_n C (n := 43) (q0 := 3) (t0 := 0) (i := j + 1) rfl rfl (by omega) (by decide) d_T_repeatsAnEarlierOne_42 rfl ?_
        have b_5 := hrk (j + 1)
        refine V.aload_n C (n := 44) (j := 0) d_T_repeatsAnEarlierOne_43 rfl rfl rfl ?_
        refine V.get C (n := 47) (q0 := 0) (k0 := 2) clOk_1 rfl (by decide) rfl fl_T_18 rfl d_T_repeatsAnEarlierOne_44 rfl ?_
        refine V.iload_n C (n := 48) (j := 1) d_T_repeatsAnEarlierOne_47 rfl rfl rfl ?_
        refine V.iaload_n C (n := 49) (q0 := 3) (t0 := 0) (i := f) rfl rfl (by omega) (by decide) d_T_repeatsAnEarlierOne_48 rfl ?_
        have b_6 := hrk (f)
        refine V.icmpn_ne C (tgt := 54) (n := 52) (by omega) (by omega) d_T_repeatsAnEarlierOne_49 (by decide) rfl (fun c49_4 => ?_) (fun c49_4 => ?_)
        · refine V.iinc C (n := 57) (j := 2) (v := nI (j + 1 + 1)) (lv' := [(0, .ref (a 0)), (1, .int (nI f)), (2, .int (nI (j + 1 + 1)))]) [1, 2, 0] d_T_repeatsAnEarlierOne_54 rfl (nI_inc (j + 1) 1) (by decide) rfl rfl ?_
          refine V.goto C (n := 2) d_T_repeatsAnEarlierOne_57 (by decide) ?_
          exact ih2 (j + 1) ⟨by omega, anyB_s ha (by simp only [decide_eq_true_eq]; omega)⟩ (by omega)
        · refine V.iconst C (v := nI 1) (n := 53) d_T_repeatsAnEarlierOne_52 (by decide) rfl ?_
          exact V.zret C hr (bI_nar _) d_T_repeatsAnEarlierOne_53 (bI_1 (anyB_hit (k := j + 1) (by omega) (by omega) (decide_eq_true (by omega)))) (rfl)
set_option maxHeartbeats 4000000 in
set_option maxRecDepth 100000 in
theorem c_T_append (l : Launch) (D : va_G) (cI cC : ClassId) (E : Nat → Nat) (a : Nat → Nat) (sd pd rk gp of to : Nat → Nat) (n : Nat) (s9 p9 r9 g9 : Nat) (hT : TabOK sd pd rk gp of to n) (h40 : n < 40) (hs : s9 ≤ 20) (hp : p9 ≤ 60) (hq : r9 ≤ 99) (hg : g9 ≤ 60) : CI l D (TY cI cC E) m_T_append (rmD 1) [.ref (a 0), .int (nI s9), .int (nI p9), .int (nI r9), .int (nI g9)] ((TabW a cI sd pd rk gp of to n)) (nI (n + 1)) ((TabW a cI (updN sd (n + 1) s9) (updN pd (n + 1) p9) (updN rk (n + 1) r9) (updN gp (n + 1) g9) (updN of (n + 1) 0) (clrT to (n + 1) 20) (n + 1))) := by
  obtain ⟨hn, hsd, hpd, hrk, hgp, hof, hto⟩ := id hT
  refine CI.of (by decide +kernel) (of_decide_eq_true rfl) ?_
  intro p e s m args below meth c C hr
  refine V.aload_n C (n := 1) (j := 0) d_T_append_0 rfl rfl rfl ?_
  refine V.callV_i C (n := 4) (ws' := (TabW a cI sd pd rk gp of to n)) (c_T_isFull l D cI cC E (a) (sd) (pd) (rk) (gp) (of) (to) (n) (by first | assumption | omega)) cw_T_34 [0, 1, 2, 3, 4, 5, 6] [] [0, 1, 2, 3, 4, 5, 6] (qr := 0) rfl rfl rfl (of_decide_eq_true rfl) rfl (of_decide_eq_true rfl) rfl (of_decide_eq_true rfl) rfl (of_decide_eq_true rfl) rfl ⟨rfl, rfl⟩ ⟨by decide, by decide⟩ ⟨by decide, by decide⟩ rfl rfl (of_decide_eq_true rfl) d_T_append_1 rfl ?_
  refine V.ifb_eq C (tgt := 9) (n := 7) d_T_append_4 (by decide) rfl (fun c4_1 => ?_) (fun c4_1 => ?_)
  · refine V.aload_n C (n := 10) (j := 0) d_T_append_9 rfl rfl rfl ?_
    refine V.dup C (n := 11) d_T_append_10 rfl rfl ?_
    refine V.get C (n := 14) (q0 := 0) (k0 := 6) clOk_1 rfl (by decide) rfl fl_T_30 rfl d_T_append_11 rfl ?_
    refine V.iconst C (v := nI 1) (n := 15) d_T_append_14 (by decide) rfl ?_
    refine V.iadd_n C (n := 16) d_T_append_15 rfl ?_
    refine V.put C (n := 19) (q0 := 0) (k0 := 6) (ws' := (TabW a cI sd pd rk gp of to (n + 1))) clOk_1 rfl (by decide) rfl rfl fl_T_30 rfl rfl (of_decide_eq_true rfl) rfl d_T_append_16 rfl ?_
    refine V.aload_n C (n := 20) (j := 0) d_T_append_19 rfl rfl rfl ?_
    refine V.get C (n := 23) (q0 := 0) (k0 := 0) clOk_1 rfl (by decide) rfl fl_T_9 rfl d_T_append_20 rfl ?_
    refine V.aload_n C (n := 24) (j := 0) d_T_append_23 rfl rfl rfl ?_
    refine V.get C (n := 27) (q0 := 0) (k0 := 6) clOk_1 rfl (by decide) rfl fl_T_30 rfl d_T_append_24 rfl ?_
    refine V.iload_n C (n := 28) (j := 1) d_T_append_27 rfl rfl rfl ?_
    refine V.iastore_n C (n := 29) (q0 := 1) (t0 := 0) (i := n + 1) (ws' := (TabW a cI (updN sd (n + 1) s9) pd rk gp of to (n + 1))) rfl rfl (by omega) (by decide) rfl d_T_append_28 rfl ?_
    refine V.aload_n C (n := 30) (j := 0) d_T_append_29 rfl rfl rfl ?_
    refine V.get C (n := 33) (q0 := 0) (k0 := 1) clOk_1 rfl (by decide) rfl fl_T_15 rfl d_T_append_30 rfl ?_
    refine V.aload_n C (n := 34) (j := 0) d_T_append_33 rfl rfl rfl ?_
    refine V.get C (n := 37) (q0 := 0) (k0 := 6) clOk_1 rfl (by decide) rfl fl_T_30 rfl d_T_append_34 rfl ?_
    refine V.iload_n C (n := 38) (j := 2) d_T_append_37 rfl rfl rfl ?_
    refine V.iastore_n C (n := 39) (q0 := 2) (t0 := 0) (i := n + 1) (ws' := (TabW a cI (updN sd (n + 1) s9) (updN pd (n + 1) p9) rk gp of to (n + 1))) rfl rfl (by omega) (by decide) rfl d_T_append_38 rfl ?_
    refine V.aload_n C (n := 40) (j := 0) d_T_append_39 rfl rfl rfl ?_
    refine V.get C (n := 43) (q0 := 0) (k0 := 2) clOk_1 rfl (by decide) rfl fl_T_18 rfl d_T_append_40 rfl ?_
    refine V.aload_n C (n := 44) (j := 0) d_T_append_43 rfl rfl rfl ?_
    refine V.get C (n := 47) (q0 := 0) (k0 := 6) clOk_1 rfl (by decide) rfl fl_T_30 rfl d_T_append_44 rfl ?_
    refine V.iload_n C (n := 48) (j := 3) d_T_append_47 rfl rfl rfl ?_
    refine V.iastore_n C (n := 49) (q0 := 3) (t0 := 0) (i := n + 1) (ws' := (TabW a cI (updN sd (n + 1) s9) (updN pd (n + 1) p9) (updN rk (n + 1) r9) gp of to (n + 1))) rfl rfl (by omega) (by decide) rfl d_T_append_48 rfl ?_
    refine V.aload_n C (n := 50) (j := 0) d_T_append_49 rfl rfl rfl ?_
    refine V.get C (n := 53) (q0 := 0) (k0 := 3) clOk_1 rfl (by decide) rfl fl_T_21 rfl d_T_append_50 rfl ?_
    refine V.aload_n C (n := 54) (j := 0) d_T_append_53 rfl rfl rfl ?_
    refine V.get C (n := 57) (q0 := 0) (k0 := 6) clOk_1 rfl (by decide) rfl fl_T_30 rfl d_T_append_54 rfl ?_
    refine V.iload C (n := 59) (j := 4) d_T_append_57 rfl rfl ?_
    refine V.iastore_n C (n := 60) (q0 := 4) (t0 := 0) (i := n + 1) (ws' := (TabW a cI (updN sd (n + 1) s9) (updN pd (n + 1) p9) (updN rk (n + 1) r9) (updN gp (n + 1) g9) of to (n + 1))) rfl rfl (by omega) (by decide) rfl d_T_append_59 rfl ?_
    refine V.aload_n C (n := 61) (j := 0) d_T_append_60 rfl rfl rfl ?_
    refine V.get C (n := 64) (q0 := 0) (k0 := 4) clOk_1 rfl (by decide) rfl fl_T_24 rfl d_T_append_61 rfl ?_
    refine V.aload_n C (n := 65) (j := 0) d_T_append_64 rfl rfl rfl ?_
    refine V.get C (n := 68) (q0 := 0) (k0 := 6) clOk_1 rfl (by decide) rfl fl_T_30 rfl d_T_append_65 rfl ?_
    refine V.iconst C (v := nI 0) (n := 69) d_T_append_68 (by decide) rfl ?_
    refine V.iastore_n C (n := 70) (q0 := 5) (t0 := 0) (i := n + 1) (ws' := (TabW a cI (updN sd (n + 1) s9) (updN pd (n + 1) p9) (updN rk (n + 1) r9) (updN gp (n + 1) g9) (updN of (n + 1) 0) to (n + 1))) rfl rfl (by omega) (by decide) rfl d_T_append_69 rfl ?_
    refine V.iconst C (v := nI 1) (n := 71) d_T_append_70 (by decide) rfl ?_
    refine V.istore C (n := 73) (lv' := [(0, .ref (a 0)), (1, .int (nI s9)), (2, .int (nI p9)), (3, .int (nI r9)), (4, .int (nI g9)), (5, .int (nI 1))]) [1, 2, 3, 4, 5, 0] d_T_append_71 (by decide) rfl rfl ?_
    refine V.ind2 C (fun (j : Nat) (tt : Nat → Nat) => (TabW a cI (updN sd (n + 1) s9) (updN pd (n + 1) p9) (updN rk (n + 1) r9) (updN gp (n + 1) g9) (updN of (n + 1) 0) tt (n + 1))) (fun (j : Nat) (tt : Nat → Nat) => [(0, .ref (a 0)), (1, .int (nI s9)), (2, .int (nI p9)), (3, .int (nI r9)), (4, .int (nI g9)), (5, .int (nI (j + 1)))]) (fun (j : Nat) (tt : Nat → Nat) => (j ≤ 20) ∧ (tt = clrT to (n + 1) j)) (fun (j : Nat) (tt : Nat → Nat) => 20 - j) (0) (to) ⟨by omega, (clrT_0 to (n + 1)).symm⟩ rfl rfl ?_
    rintro j tt ⟨hj, ha⟩ ih73
    try dsimp only
    refine V.iload C (n := 75) (j := 5) d_T_append_73 rfl rfl ?_
    refine V.bipush C (v := nI 20) (n := 77) d_T_append_75 (by decide) rfl ?_
    refine V.icmpn_gt C (tgt := 97) (n := 80) (by omega) (by omega) d_T_append_77 (by decide) rfl (fun c77_2 => ?_) (fun c77_2 => ?_)
    · refine V.aload_n C (n := 98) (j := 0) d_T_append_97 rfl rfl rfl ?_
      refine V.get C (n := 101) (q0 := 0) (k0 := 6) clOk_1 rfl (by decide) rfl fl_T_30 rfl d_T_append_98 rfl ?_
      exact V.iret C hr d_T_append_101 (rfl) (by rw [ha, show j = 20 by omega])
    · refine V.aload_n C (n := 81) (j := 0) d_T_append_80 rfl rfl rfl ?_
      refine V.aload_n C (n := 82) (j := 0) d_T_append_81 rfl rfl rfl ?_
      refine V.get C (n := 85) (q0 := 0) (k0 := 6) clOk_1 rfl (by decide) rfl fl_T_30 rfl d_T_append_82 rfl ?_
      refine V.iload C (n := 87) (j := 5) d_T_append_85 rfl rfl ?_
      refine V.iconst C (v := nI 0) (n := 88) d_T_append_87 (by decide) rfl ?_
      have hT2 : TabOK (updN sd (n + 1) s9) (updN pd (n + 1) p9) (updN rk (n + 1) r9) (updN gp (n + 1) g9) (updN of (n + 1) 0) tt (n + 1) := TabOK_app hT h40 hs hp hq hg (by rw [ha]; exact clrT_le hto)
      refine V.callV_v C (n := 91) (ws2 := fun _ => (TabW a cI (updN sd (n + 1) s9) (updN pd (n + 1) p9) (updN rk (n + 1) r9) (updN gp (n + 1) g9) (updN of (n + 1) 0) (updN tt ((n + 1) * 21 + (j + 1)) 0) (n + 1))) (c_T_setTimeout l D cI cC E (a) (updN sd (n + 1) s9) (updN pd (n + 1) p9) (updN rk (n + 1) r9) (updN gp (n + 1) g9) (updN of (n + 1) 0) (tt) (n + 1) (n + 1) (j + 1) (0) (by first | assumption | omega) (by first | assumption | omega) (by first | assumption | omega) (by first | assumption | omega)) cw_T_38 [0, 1, 2, 3, 4, 5, 6] [] [0, 1, 2, 3, 4, 5, 6] (qr := 0) rfl rfl rfl (of_decide_eq_true rfl) rfl (of_decide_eq_true rfl) rfl (of_decide_eq_true rfl) (fun _ => rfl) (fun _ => of_decide_eq_true rfl) rfl ⟨rfl, rfl⟩ ⟨by decide, by decide⟩ ⟨by decide, by decide⟩ rfl rfl (of_decide_eq_true rfl) d_T_append_88 rfl (fun _ _ => ?_)
      refine V.iinc C (n := 94) (j := 5) (v := nI (j + 1 + 1)) (lv' := [(0, .ref (a 0)), (1, .int (nI s9)), (2, .int (nI p9)), (3, .int (nI r9)), (4, .int (nI g9)), (5, .int (nI (j + 1 + 1)))]) [1, 2, 3, 4, 5, 0] d_T_append_91 rfl (nI_inc (j + 1) 1) (by decide) rfl rfl ?_
      refine V.goto C (n := 73) d_T_append_94 (by decide) ?_
      exact ih73 (j + 1) (updN tt ((n + 1) * 21 + (j + 1)) 0) ⟨by omega, by rw [ha]; exact clrT_s to (n + 1) j⟩ (by omega)
  · exfalso; omega
end
section
def SpnOK (fi la : Nat → Nat) : Prop := (∀ j, fi j ≤ 2047) ∧ ∀ j, la j ≤ 2047
def TxtOK (sg : Nat → Nat) (ln : Nat) : Prop := ln ≤ 2000 ∧ ∀ j, sg j ≤ 255
abbrev TxS : Type := (Nat → Nat) × Nat × Bool
/-- a sign more: behind 2000 it is lost -/
def addX (t : TxS) (c : Nat) : TxS := if t.2.1 < 2000 then (updN t.1 t.2.1 c, t.2.1 + 1, t.2.2) else (t.1, t.2.1, true)
def sgAt (sg : Nat → Nat) (ln : Nat) (X : Int) : Int := if 0 ≤ X ∧ X < (ln : Int) then ((sg X.toNat : Nat) : Int) else -1
theorem nar_chr {q : Nat} (h : q ≤ 255) : vp_nar .char (nI q) = nI q := by
  have h2 := (pk_charN (q := q) (by omega)).1
  unfold vp_nar
  rw [h2]
theorem addX_t {sg : Nat → Nat} {ln : Nat} {lo : Bool} {c : Nat} (h : ln < 2000) : addX (sg, ln, lo) c = (updN sg ln c, ln + 1, lo) := if_pos h
theorem addX_f {sg : Nat → Nat} {ln : Nat} {lo : Bool} {c : Nat} (h : ¬ ln < 2000) : addX (sg, ln, lo) c = (sg, ln, true) := if_neg h
theorem addX_ok {t : TxS} {c : Nat} (h : TxtOK t.1 t.2.1) (hc : c ≤ 255) : TxtOK (addX t c).1 (addX t c).2.1 := by
  obtain ⟨sg, ln, lo⟩ := t
  by_cases q : ln < 2000
  · rw [addX_t q]
    exact ⟨q, updN_le h.2 hc⟩
  · rw [addX_f q]
    exact h
theorem TabOK_to {sd pd rk gp of to : Nat → Nat} {n i t : Nat} (hT : TabOK sd pd rk gp of to n) (ht : t ≤ 10000) : TabOK sd pd rk gp of (updN to i t) n := by
  obtain ⟨hn, hsd, hpd, hrk, hgp, hof, hto⟩ := hT
  exact ⟨hn, hsd, hpd, hrk, hgp, hof, updN_le hto ht⟩
/-- the k of 1 .. m before which Y others are, else 0 -/
def nthB (p : Nat → Bool) (Y : Int) : Nat → Nat
  | 0 => 0
  | m + 1 => if nthB p Y m ≠ 0 then nthB p Y m else if p (m + 1) = true ∧ (cntB p m : Int) = Y then m + 1 else 0
theorem nthB_miss {p : Nat → Bool} {Y : Int} {j : Nat} (h : nthB p Y j = 0) (h2 : ¬ (p (j + 1) = true ∧ (cntB p j : Int) = Y)) : nthB p Y (j + 1) = 0 := by
  rw [nthB, if_neg (by rw [h]; decide), if_neg h2]
theorem nthB_keep {p : Nat → Bool} {Y : Int} {k m : Nat} (h : k ≤ m) (hk : nthB p Y k ≠ 0) : nthB p Y m = nthB p Y k := by
  induction m with
  | zero => rw [show k = 0 by omega]
  | succ m ih =>
    by_cases e : k = m + 1
    · rw [e]
    · have i := ih (by omega)
      rw [nthB, if_pos (by rw [i]; exact hk), i]
theorem nthB_hit {p : Nat → Bool} {Y : Int} {j m : Nat} (hm : j + 1 ≤ m) (h : nthB p Y j = 0) (h1 : p (j + 1) = true) (h2 : (cntB p j : Int) = Y) : nthB p Y m = j + 1 := by
  have e : nthB p Y (j + 1) = j + 1 := by rw [nthB, if_neg (by rw [h]; decide), if_pos ⟨h1, h2⟩]
  rw [nthB_keep hm (by rw [e]; omega), e]
noncomputable def FtW (o : Nat → Nat) (ta dr sp tx pr se : Nat) (ex : Bool) : va_W := [(o 0, .inr (0, [.ref ta, .ref dr, .ref sp, .ref tx, .ref pr, .ref se, .int (bI (ex = true))]))]
end
section
set_option maxHeartbeats 4000000 in
set_option maxRecDepth 100000 in
theorem c_S_set (l : Launch) (D : va_G) (cI cC : ClassId) (E : Nat → Nat) (q : Nat → Nat) (fi la : Nat → Nat) (k x y : Nat) (hS0 : SpnOK fi la) (hk : k < 4) (hx : x ≤ 2047) (hy : y ≤ 2047) : CV l D (TY cI cC E) m_S_set (rmD 0) [.ref (q 0), .int (nI k), .int (nI x), .int (nI y)] (SpnW q cI fi la) (SpnW q cI (updN fi k x) (updN la k y)) := by
  obtain ⟨hfi, hla⟩ := id hS0
  refine CN.of (by decide +kernel) (of_decide_eq_true rfl) ?_
  intro p e s m args below meth c C hr hin
  refine V.aload_n C (n := 1) (j := 0) d_S_set_0 rfl rfl rfl ?_
  refine V.get C (n := 4) (q0 := 0) (k0 := 0) clOk_2 rfl (by decide) rfl fl_S_9 rfl d_S_set_1 rfl ?_
  refine V.iload_n C (n := 5) (j := 1) d_S_set_4 rfl rfl rfl ?_
  refine V.iload_n C (n := 6) (j := 2) d_S_set_5 rfl rfl rfl ?_
  refine V.iastore_n C (n := 7) (q0 := 1) (t0 := 0) (i := k) (ws' := (SpnW q cI (updN fi k x) la)) rfl rfl (by omega) (by decide) rfl d_S_set_6 rfl ?_
  refine V.aload_n C (n := 8) (j := 0) d_S_set_7 rfl rfl rfl ?_
  refine V.get C (n := 11) (q0 := 0) (k0 := 1) clOk_2 rfl (by decide) rfl fl_S_15 rfl d_S_set_8 rfl ?_
  refine V.iload_n C (n := 12) (j := 1) d_S_set_11 rfl rfl rfl ?_
  refine V.iload_n C (n := 13) (j := 3) d_S_set_12 rfl rfl rfl ?_
  refine V.iastore_n C (n := 14) (q0 := 2) (t0 := 0) (i := k) (ws' := (SpnW q cI (updN fi k x) (updN la k y))) rfl rfl (by omega) (by decide) rfl d_S_set_13 rfl ?_
  exact V.vret C hr d_S_set_14 () (trivial) (rfl)
set_option maxHeartbeats 4000000 in
set_option maxRecDepth 100000 in
theorem c_S_meetAnother (l : Launch) (D : va_G) (cI cC : ClassId) (E : Nat → Nat) (q : Nat → Nat) (fi la : Nat → Nat) (k x y : Nat) (hS0 : SpnOK fi la) (hk : k < 4) (hx : x ≤ 2047) (hy : y ≤ 2047) : CI l D (TY cI cC E) m_S_meetAnother (rmD 0) [.ref (q 0), .int (nI k), .int (nI x), .int (nI y)] ((SpnW q cI fi la)) (bI (anyB (fun i => decide (i - 1 ≠ k ∧ x ≤ la (i - 1) ∧ fi (i - 1) ≤ y)) 4 = true)) ((SpnW q cI fi la)) := by
  obtain ⟨hfi, hla⟩ := id hS0
  refine CI.of (by decide +kernel) (of_decide_eq_true rfl) ?_
  intro p e s m args below meth c C hr
  refine V.iconst C (v := nI 0) (n := 1) d_S_meetAnother_0 (by decide) rfl ?_
  refine V.istore C (n := 3) (lv' := [(0, .ref (q 0)), (1, .int (nI k)), (2, .int (nI x)), (3, .int (nI y)), (4, .int (nI 0))]) [1, 2, 3, 4, 0] d_S_meetAnother_1 (by decide) rfl rfl ?_
  refine V.ind1 C (fun (j : Nat) => (SpnW q cI fi la)) (fun (j : Nat) => [(0, .ref (q 0)), (1, .int (nI k)), (2, .int (nI x)), (3, .int (nI y)), (4, .int (nI j))]) (fun (j : Nat) => (j ≤ 4) ∧ (anyB (fun i => decide (i - 1 ≠ k ∧ x ≤ la (i - 1) ∧ fi (i - 1) ≤ y)) j = false)) (fun (j : Nat) => 4 - j) (0) ⟨by omega, rfl⟩ rfl rfl ?_
  rintro j ⟨hj, ha⟩ ih3
  try dsimp only
  refine V.iload C (n := 5) (j := 4) d_S_meetAnother_3 rfl rfl ?_
  refine V.iconst C (v := nI 4) (n := 6) d_S_meetAnother_5 (by decide) rfl ?_
  refine V.icmpn_ge C (tgt := 45) (n := 9) (by omega) (by omega) d_S_meetAnother_6 (by decide) rfl (fun c6_1 => ?_) (fun c6_1 => ?_)
  · refine V.iconst C (v := nI 0) (n := 46) d_S_meetAnother_45 (by decide) rfl ?_
    exact V.zret C hr (bI_nar _) d_S_meetAnother_46 (bI_0 (by rw [show j = 4 by omega] at ha; rw [ha]; decide)) (rfl)
  · refine V.iload C (n := 11) (j := 4) d_S_meetAnother_9 rfl rfl ?_
    refine V.iload_n C (n := 12) (j := 1) d_S_meetAnother_11 rfl rfl rfl ?_
    refine V.icmpn_eq C (tgt := 39) (n := 15) (by omega) (by omega) d_S_meetAnother_12 (by decide) rfl (fun c12_2 => ?_) (fun c12_2 => ?_)
    · refine V.iinc C (n := 42) (j := 4) (v := nI (j + 1)) (lv' := [(0, .ref (q 0)), (1, .int (nI k)), (2, .int (nI x)), (3, .int (nI y)), (4, .int (nI (j + 1)))]) [1, 2, 3, 4, 0] d_S_meetAnother_39 rfl (nI_inc (j) 1) (by decide) rfl rfl ?_
      refine V.goto C (n := 3) d_S_meetAnother_42 (by decide) ?_
      exact ih3 (j + 1) ⟨by omega, anyB_s ha (by simp only [decide_eq_true_eq, Nat.add_sub_cancel]; omega)⟩ (by omega)
    · refine V.iload_n C (n := 16) (j := 2) d_S_meetAnother_15 rfl rfl rfl ?_
      refine V.aload_n C (n := 17) (j := 0) d_S_meetAnother_16 rfl rfl rfl ?_
      refine V.get C (n := 20) (q0 := 0) (k0 := 1) clOk_2 rfl (by decide) rfl fl_S_15 rfl d_S_meetAnother_17 rfl ?_
      refine V.iload C (n := 22) (j := 4) d_S_meetAnother_20 rfl rfl ?_
      refine V.iaload_n C (n := 23) (q0 := 2) (t0 := 0) (i := j) rfl rfl (by omega) (by decide) d_S_meetAnother_22 rfl ?_
      have b_1 := hla (j)
      refine V.icmpn_gt C (tgt := 39) (n := 26) (by omega) (by omega) d_S_meetAnother_23 (by decide) rfl (fun c23_3 => ?_) (fun c23_3 => ?_)
      · refine V.iinc C (n := 42) (j := 4) (v := nI (j + 1)) (lv' := [(0, .ref (q 0)), (1, .int (nI k)), (2, .int (nI x)), (3, .int (nI y)), (4, .int (nI (j + 1)))]) [1, 2, 3, 4, 0] d_S_meetAnother_39 rfl (nI_inc (j) 1) (by decide) rfl rfl ?_
        refine V.goto C (n := 3) d_S_meetAnother_42 (by decide) ?_
        exact ih3 (j + 1) ⟨by omega, anyB_s ha (by simp only [decide_eq_true_eq, Nat.add_sub_cancel]; omega)⟩ (by omega)
      · refine V.iload_n C (n := 27) (j := 3) d_S_meetAnother_26 rfl rfl rfl ?_
        refine V.aload_n C (n := 28) (j := 0) d_S_meetAnother_27 rfl rfl rfl ?_
        refine V.get C (n := 31) (q0 := 0) (k0 := 0) clOk_2 rfl (by decide) rfl fl_S_9 rfl d_S_meetAnother_28 rfl ?_
        refine V.iload C (n := 33) (j := 4) d_S_meetAnother_31 rfl rfl ?_
        refine V.iaload_n C (n := 34) (q0 := 1) (t0 := 0) (i := j) rfl rfl (by omega) (by decide) d_S_meetAnother_33 rfl ?_
        have b_2 := hfi (j)
        refine V.icmpn_lt C (tgt := 39) (n := 37) (by omega) (by omega) d_S_meetAnother_34 (by decide) rfl (fun c34_4 => ?_) (fun c34_4 => ?_)
        · refine V.iinc C (n := 42) (j := 4) (v := nI (j + 1)) (lv' := [(0, .ref (q 0)), (1, .int (nI k)), (2, .int (nI x)), (3, .int (nI y)), (4, .int (nI (j + 1)))]) [1, 2, 3, 4, 0] d_S_meetAnother_39 rfl (nI_inc (j) 1) (by decide) rfl rfl ?_
          refine V.goto C (n := 3) d_S_meetAnother_42 (by decide) ?_
          exact ih3 (j + 1) ⟨by omega, anyB_s ha (by simp only [decide_eq_true_eq, Nat.add_sub_cancel]; omega)⟩ (by omega)
        · refine V.iconst C (v := nI 1) (n := 38) d_S_meetAnother_37 (by decide) rfl ?_
          exact V.zret C hr (bI_nar _) d_S_meetAnother_38 (bI_1 (anyB_hit (k := j + 1) (by omega) (by omega) (decide_eq_true (by simp only [Nat.add_sub_cancel]; omega)))) (rfl)
set_option maxHeartbeats 4000000 in
set_option maxRecDepth 100000 in
theorem c_S_identifierAt (l : Launch) (D : va_G) (cI cC : ClassId) (E : Nat → Nat) (q : Nat → Nat) (fi la : Nat → Nat) (k x : Nat) (hS0 : SpnOK fi la) (hk : k < 4) (hx : x ≤ 100) : CI l D (TY cI cC E) m_S_identifierAt (rmD 0) [.ref (q 0), .int (nI k), .int (nI x)] ((SpnW q cI fi la)) (iI (if fi k + x ≤ la k then ((fi k + x : Nat) : Int) else -1)) ((SpnW q cI fi la)) := by
  obtain ⟨hfi, hla⟩ := id hS0
  refine CI.of (by decide +kernel) (of_decide_eq_true rfl) ?_
  intro p e s m args below meth c C hr
  refine V.aload_n C (n := 1) (j := 0) d_S_identifierAt_0 rfl rfl rfl ?_
  refine V.get C (n := 4) (q0 := 0) (k0 := 0) clOk_2 rfl (by decide) rfl fl_S_9 rfl d_S_identifierAt_1 rfl ?_
  refine V.iload_n C (n := 5) (j := 1) d_S_identifierAt_4 rfl rfl rfl ?_
  refine V.iaload_n C (n := 6) (q0 := 1) (t0 := 0) (i := k) rfl rfl (by omega) (by decide) d_S_identifierAt_5 rfl ?_
  have b_1 := hfi (k)
  refine V.iload_n C (n := 7) (j := 2) d_S_identifierAt_6 rfl rfl rfl ?_
  refine V.iadd_n C (n := 8) d_S_identifierAt_7 rfl ?_
  refine V.istore_n C (n := 9) (lv' := [(0, .ref (q 0)), (1, .int (nI k)), (2, .int (nI x)), (3, .int (nI ((fi k) + x)))]) [1, 2, 3, 0] d_S_identifierAt_8 rfl (by decide) rfl rfl ?_
  refine V.iload_n C (n := 10) (j := 3) d_S_identifierAt_9 rfl rfl rfl ?_
  refine V.aload_n C (n := 11) (j := 0) d_S_identifierAt_10 rfl rfl rfl ?_
  refine V.get C (n := 14) (q0 := 0) (k0 := 1) clOk_2 rfl (by decide) rfl fl_S_15 rfl d_S_identifierAt_11 rfl ?_
  refine V.iload_n C (n := 15) (j := 1) d_S_identifierAt_14 rfl rfl rfl ?_
  refine V.iaload_n C (n := 16) (q0 := 2) (t0 := 0) (i := k) rfl rfl (by omega) (by decide) d_S_identifierAt_15 rfl ?_
  have b_2 := hla (k)
  refine V.icmpn_gt C (tgt := 23) (n := 19) (by omega) (by omega) d_S_identifierAt_16 (by decide) rfl (fun c16_1 => ?_) (fun c16_1 => ?_)
  · refine V.iconst C (v := iI (-1)) (n := 24) d_S_identifierAt_23 (by decide) rfl ?_
    exact V.iret C hr d_S_identifierAt_24 (by rw [if_neg (by omega)]) (rfl)
  · refine V.iload_n C (n := 20) (j := 3) d_S_identifierAt_19 rfl rfl rfl ?_
    refine V.goto C (n := 24) d_S_identifierAt_20 (by decide) ?_
    exact V.iret C hr d_S_identifierAt_24 (by rw [if_pos (by omega), iI_nat]) (rfl)
set_option maxHeartbeats 4000000 in
set_option maxRecDepth 100000 in
theorem c_X_clear (l : Launch) (D : va_G) (cI cC : ClassId) (E : Nat → Nat) (x : Nat → Nat) (sg : Nat → Nat) (ln : Nat) (lo : Bool) (hX0 : TxtOK sg ln) : CV l D (TY cI cC E) m_X_clear (rmD 0) [.ref (x 0)] (TxtW x cC sg ln lo) (TxtW x cC sg 0 false) := by
  obtain ⟨hln, hsg⟩ := id hX0
  refine CN.of (by decide +kernel) (of_decide_eq_true rfl) ?_
  intro p e s m args below meth c C hr hin
  refine V.aload_n C (n := 1) (j := 0) d_X_clear_0 rfl rfl rfl ?_
  refine V.iconst C (v := nI 0) (n := 2) d_X_clear_1 (by decide) rfl ?_
  refine V.put C (n := 5) (q0 := 0) (k0 := 1) (ws' := (TxtW x cC sg 0 lo)) clOk_3 rfl (by decide) rfl rfl fl_X_15 rfl rfl (of_decide_eq_true rfl) rfl d_X_clear_2 rfl ?_
  refine V.aload_n C (n := 6) (j := 0) d_X_clear_5 rfl rfl rfl ?_
  refine V.iconst C (v := nI 0) (n := 7) d_X_clear_6 (by decide) rfl ?_
  refine V.cv C (y := bI (false = true)) (bI_0 (by decide)) ?_
  refine V.put C (n := 10) (q0 := 0) (k0 := 2) (ws' := (TxtW x cC sg 0 false)) clOk_3 rfl (by decide) rfl rfl fl_X_19 (bI_nar _) (bI_fit _) (of_decide_eq_true rfl) rfl d_X_clear_7 rfl ?_
  exact V.vret C hr d_X_clear_10 () (trivial) (rfl)
set_option maxHeartbeats 4000000 in
set_option maxRecDepth 100000 in
theorem c_X_length (l : Launch) (D : va_G) (cI cC : ClassId) (E : Nat → Nat) (x : Nat → Nat) (sg : Nat → Nat) (ln : Nat) (lo : Bool) (hX0 : TxtOK sg ln) : CI l D (TY cI cC E) m_X_length (rmD 0) [.ref (x 0)] ((TxtW x cC sg ln lo)) (nI ln) ((TxtW x cC sg ln lo)) := by
  obtain ⟨hln, hsg⟩ := id hX0
  refine CI.of (by decide +kernel) (of_decide_eq_true rfl) ?_
  intro p e s m args below meth c C hr
  refine V.aload_n C (n := 1) (j := 0) d_X_length_0 rfl rfl rfl ?_
  refine V.get C (n := 4) (q0 := 0) (k0 := 1) clOk_3 rfl (by decide) rfl fl_X_15 rfl d_X_length_1 rfl ?_
  exact V.iret C hr d_X_length_4 (rfl) (rfl)
set_option maxHeartbeats 4000000 in
set_option maxRecDepth 100000 in
theorem c_X_hasLostSigns (l : Launch) (D : va_G) (cI cC : ClassId) (E : Nat → Nat) (x : Nat → Nat) (sg : Nat → Nat) (ln : Nat) (lo : Bool) (hX0 : TxtOK sg ln) : CI l D (TY cI cC E) m_X_hasLostSigns (rmD 0) [.ref (x 0)] ((TxtW x cC sg ln lo)) (bI (lo = true)) ((TxtW x cC sg ln lo)) := by
  obtain ⟨hln, hsg⟩ := id hX0
  refine CI.of (by decide +kernel) (of_decide_eq_true rfl) ?_
  intro p e s m args below meth c C hr
  refine V.aload_n C (n := 1) (j := 0) d_X_hasLostSigns_0 rfl rfl rfl ?_
  refine V.get C (n := 4) (q0 := 0) (k0 := 2) clOk_3 rfl (by decide) rfl fl_X_19 rfl d_X_hasLostSigns_1 rfl ?_
  exact V.zret C hr (bI_nar _) d_X_hasLostSigns_4 (rfl) (rfl)
set_option maxHeartbeats 4000000 in
set_option maxRecDepth 100000 in
theorem c_X_signAt (l : Launch) (D : va_G) (cI cC : ClassId) (E : Nat → Nat) (x : Nat → Nat) (sg : Nat → Nat) (ln : Nat) (lo : Bool) (X : Int) (hX0 : TxtOK sg ln) (hX : -2147483648 ≤ X ∧ X < 2147483648) : CI l D (TY cI cC E) m_X_signAt (rmD 0) [.ref (x 0), .int (iI (X))] ((TxtW x cC sg ln lo)) (iI (sgAt sg ln X)) ((TxtW x cC sg ln lo)) := by
  obtain ⟨hln, hsg⟩ := id hX0
  refine CI.of (by decide +kernel) (of_decide_eq_true rfl) ?_
  intro p e s m args below meth c C hr
  refine V.iload_n C (n := 1) (j := 1) d_X_signAt_0 rfl rfl rfl ?_
  refine V.if_lt C (tgt := 21) (n := 4) (iI_toInt (by omega) (by omega)) d_X_signAt_1 (by decide) rfl (fun c1_1 => ?_) (fun c1_1 => ?_)
  · refine V.iconst C (v := iI (-1)) (n := 22) d_X_signAt_21 (by decide) rfl ?_
    exact V.iret C hr d_X_signAt_22 (by rw [sgAt, if_neg (by omega)]) (rfl)
  · refine V.iload_n C (n := 5) (j := 1) d_X_signAt_4 rfl rfl rfl ?_
    refine V.aload_n C (n := 6) (j := 0) d_X_signAt_5 rfl rfl rfl ?_
    refine V.get C (n := 9) (q0 := 0) (k0 := 1) clOk_3 rfl (by decide) rfl fl_X_15 rfl d_X_signAt_6 rfl ?_
    refine V.icmp_ge C (tgt := 21) (n := 12) (iI_toInt (by omega) (by omega)) (nT (by omega)) d_X_signAt_9 (by decide) rfl (fun c9_2 => ?_) (fun c9_2 => ?_)
    · refine V.iconst C (v := iI (-1)) (n := 22) d_X_signAt_21 (by decide) rfl ?_
      exact V.iret C hr d_X_signAt_22 (by rw [sgAt, if_neg (by omega)]) (rfl)
    · refine V.aload_n C (n := 13) (j := 0) d_X_signAt_12 rfl rfl rfl ?_
      refine V.get C (n := 16) (q0 := 0) (k0 := 0) clOk_3 rfl (by decide) rfl fl_X_9 rfl d_X_signAt_13 rfl ?_
      refine V.iload_n C (n := 17) (j := 1) d_X_signAt_16 rfl rfl rfl ?_
      refine V.cv C (iI_nn (z := X) (by omega)) ?_
      refine V.caload_n C (n := 18) (q0 := 1) (t0 := 1) (i := (X).toNat) rfl rfl (by omega) (by decide) d_X_signAt_17 rfl ?_
      have b_1 := hsg ((X).toNat)
      refine V.goto C (n := 22) d_X_signAt_18 (by decide) ?_
      exact V.iret C hr d_X_signAt_22 (by rw [sgAt, if_pos (by omega), iI_nat]) (rfl)
set_option maxHeartbeats 4000000 in
set_option maxRecDepth 100000 in
theorem c_X_add (l : Launch) (D : va_G) (cI cC : ClassId) (E : Nat → Nat) (x : Nat → Nat) (sg : Nat → Nat) (ln : Nat) (lo : Bool) (ch : Nat) (hX0 : TxtOK sg ln) (hc : ch ≤ 255) : CV l D (TY cI cC E) m_X_add (rmD 0) [.ref (x 0), .int (nI ch)] (TxtW x cC sg ln lo) (TxtW x cC ((addX (sg, ln, lo) ch).1) ((addX (sg, ln, lo) ch).2.1) ((addX (sg, ln, lo) ch).2.2)) := by
  obtain ⟨hln, hsg⟩ := id hX0
  refine CN.of (by decide +kernel) (of_decide_eq_true rfl) ?_
  intro p e s m args below meth c C hr hin
  refine V.aload_n C (n := 1) (j := 0) d_X_add_0 rfl rfl rfl ?_
  refine V.get C (n := 4) (q0 := 0) (k0 := 1) clOk_3 rfl (by decide) rfl fl_X_15 rfl d_X_add_1 rfl ?_
  refine V.sipush C (v := nI 2000) (n := 7) d_X_add_4 (by decide) rfl ?_
  refine V.icmpn_lt C (tgt := 16) (n := 10) (by omega) (by omega) d_X_add_7 (by decide) rfl (fun c7_1 => ?_) (fun c7_1 => ?_)
  · refine V.aload_n C (n := 17) (j := 0) d_X_add_16 rfl rfl rfl ?_
    refine V.get C (n := 20) (q0 := 0) (k0 := 0) clOk_3 rfl (by decide) rfl fl_X_9 rfl d_X_add_17 rfl ?_
    refine V.aload_n C (n := 21) (j := 0) d_X_add_20 rfl rfl rfl ?_
    refine V.get C (n := 24) (q0 := 0) (k0 := 1) clOk_3 rfl (by decide) rfl fl_X_15 rfl d_X_add_21 rfl ?_
    refine V.iload_n C (n := 25) (j := 1) d_X_add_24 rfl rfl rfl ?_
    refine V.castore_n C (n := 26) (q0 := 1) (t0 := 1) (i := ln) (ws' := (TxtW x cC (updN sg ln ch) ln lo)) rfl rfl (by omega) (by decide) (nar_chr hc) rfl d_X_add_25 rfl ?_
    refine V.aload_n C (n := 27) (j := 0) d_X_add_26 rfl rfl rfl ?_
    refine V.dup C (n := 28) d_X_add_27 rfl rfl ?_
    refine V.get C (n := 31) (q0 := 0) (k0 := 1) clOk_3 rfl (by decide) rfl fl_X_15 rfl d_X_add_28 rfl ?_
    refine V.iconst C (v := nI 1) (n := 32) d_X_add_31 (by decide) rfl ?_
    refine V.iadd_n C (n := 33) d_X_add_32 rfl ?_
    refine V.put C (n := 36) (q0 := 0) (k0 := 1) (ws' := (TxtW x cC (updN sg ln ch) (ln + 1) lo)) clOk_3 rfl (by decide) rfl rfl fl_X_15 rfl rfl (of_decide_eq_true rfl) rfl d_X_add_33 rfl ?_
    exact V.vret C hr d_X_add_36 () (trivial) (by rw [addX_t (by omega)])
  · refine V.aload_n C (n := 11) (j := 0) d_X_add_10 rfl rfl rfl ?_
    refine V.iconst C (v := nI 1) (n := 12) d_X_add_11 (by decide) rfl ?_
    refine V.cv C (y := bI (true = true)) (bI_1 rfl) ?_
    refine V.put C (n := 15) (q0 := 0) (k0 := 2) (ws' := (TxtW x cC sg ln true)) clOk_3 rfl (by decide) rfl rfl fl_X_19 (bI_nar _) (bI_fit _) (of_decide_eq_true rfl) rfl d_X_add_12 rfl ?_
    exact V.vret C hr d_X_add_15 () (trivial) (by rw [addX_f (by omega)])
set_option maxHeartbeats 4000000 in
set_option maxRecDepth 100000 in
theorem c_F_isNode (l : Launch) (D : va_G) (cI cC : ClassId) (E : Nat → Nat) (X : Int) (hX : -2147483648 ≤ X ∧ X < 2147483648) : CI l D (TY cI cC E) m_F_isNode (rmD 0) [.int (iI (X))] ([]) (bI (1 ≤ X ∧ X ≤ 20)) ([]) := by
  refine CI.of (by decide +kernel) (of_decide_eq_true rfl) ?_
  intro p e s m args below meth c C hr
  refine V.iload_n C (n := 1) (j := 0) d_F_isNode_0 rfl rfl rfl ?_
  refine V.iconst C (v := nI 1) (n := 2) d_F_isNode_1 (by decide) rfl ?_
  refine V.icmp_lt C (tgt := 15) (n := 5) (iI_toInt (by omega) (by omega)) (nT (by omega)) d_F_isNode_2 (by decide) rfl (fun c2_1 => ?_) (fun c2_1 => ?_)
  · refine V.iconst C (v := nI 0) (n := 16) d_F_isNode_15 (by decide) rfl ?_
    exact V.zret C hr (bI_nar _) d_F_isNode_16 (by first | exact bI_1 (by omega) | exact bI_0 (by omega)) (rfl)
  · refine V.iload_n C (n := 6) (j := 0) d_F_isNode_5 rfl rfl rfl ?_
    refine V.bipush C (v := nI 20) (n := 8) d_F_isNode_6 (by decide) rfl ?_
    refine V.icmp_gt C (tgt := 15) (n := 11) (iI_toInt (by omega) (by omega)) (nT (by omega)) d_F_isNode_8 (by decide) rfl (fun c8_2 => ?_) (fun c8_2 => ?_)
    · refine V.iconst C (v := nI 0) (n := 16) d_F_isNode_15 (by decide) rfl ?_
      exact V.zret C hr (bI_nar _) d_F_isNode_16 (by first | exact bI_1 (by omega) | exact bI_0 (by omega)) (rfl)
    · refine V.iconst C (v := nI 1) (n := 12) d_F_isNode_11 (by decide) rfl ?_
      refine V.goto C (n := 16) d_F_isNode_12 (by decide) ?_
      exact V.zret C hr (bI_nar _) d_F_isNode_16 (by first | exact bI_1 (by omega) | exact bI_0 (by omega)) (rfl)
set_option maxHeartbeats 4000000 in
set_option maxRecDepth 100000 in
theorem c_F_isPeriod (l : Launch) (D : va_G) (cI cC : ClassId) (E : Nat → Nat) (X : Int) (hX : -2147483648 ≤ X ∧ X < 2147483648) : CI l D (TY cI cC E) m_F_isPeriod (rmD 0) [.int (iI (X))] ([]) (bI (1 ≤ X ∧ X ≤ 60)) ([]) := by
  refine CI.of (by decide +kernel) (of_decide_eq_true rfl) ?_
  intro p e s m args below meth c C hr
  refine V.iload_n C (n := 1) (j := 0) d_F_isPeriod_0 rfl rfl rfl ?_
  refine V.iconst C (v := nI 1) (n := 2) d_F_isPeriod_1 (by decide) rfl ?_
  refine V.icmp_lt C (tgt := 15) (n := 5) (iI_toInt (by omega) (by omega)) (nT (by omega)) d_F_isPeriod_2 (by decide) rfl (fun c2_1 => ?_) (fun c2_1 => ?_)
  · refine V.iconst C (v := nI 0) (n := 16) d_F_isPeriod_15 (by decide) rfl ?_
    exact V.zret C hr (bI_nar _) d_F_isPeriod_16 (by first | exact bI_1 (by omega) | exact bI_0 (by omega)) (rfl)
  · refine V.iload_n C (n := 6) (j := 0) d_F_isPeriod_5 rfl rfl rfl ?_
    refine V.bipush C (v := nI 60) (n := 8) d_F_isPeriod_6 (by decide) rfl ?_
    refine V.icmp_gt C (tgt := 15) (n := 11) (iI_toInt (by omega) (by omega)) (nT (by omega)) d_F_isPeriod_8 (by decide) rfl (fun c8_2 => ?_) (fun c8_2 => ?_)
    · refine V.iconst C (v := nI 0) (n := 16) d_F_isPeriod_15 (by decide) rfl ?_
      exact V.zret C hr (bI_nar _) d_F_isPeriod_16 (by first | exact bI_1 (by omega) | exact bI_0 (by omega)) (rfl)
    · refine V.iconst C (v := nI 1) (n := 12) d_F_isPeriod_11 (by decide) rfl ?_
      refine V.goto C (n := 16) d_F_isPeriod_12 (by decide) ?_
      exact V.zret C hr (bI_nar _) d_F_isPeriod_16 (by first | exact bI_1 (by omega) | exact bI_0 (by omega)) (rfl)
set_option maxHeartbeats 4000000 in
set_option maxRecDepth 100000 in
theorem c_F_isRank (l : Launch) (D : va_G) (cI cC : ClassId) (E : Nat → Nat) (X : Int) (hX : -2147483648 ≤ X ∧ X < 2147483648) : CI l D (TY cI cC E) m_F_isRank (rmD 0) [.int (iI (X))] ([]) (bI (0 ≤ X ∧ X ≤ 99)) ([]) := by
  refine CI.of (by decide +kernel) (of_decide_eq_true rfl) ?_
  intro p e s m args below meth c C hr
  refine V.iload_n C (n := 1) (j := 0) d_F_isRank_0 rfl rfl rfl ?_
  refine V.if_lt C (tgt := 14) (n := 4) (iI_toInt (by omega) (by omega)) d_F_isRank_1 (by decide) rfl (fun c1_1 => ?_) (fun c1_1 => ?_)
  · refine V.iconst C (v := nI 0) (n := 15) d_F_isRank_14 (by decide) rfl ?_
    exact V.zret C hr (bI_nar _) d_F_isRank_15 (by first | exact bI_1 (by omega) | exact bI_0 (by omega)) (rfl)
  · refine V.iload_n C (n := 5) (j := 0) d_F_isRank_4 rfl rfl rfl ?_
    refine V.bipush C (v := nI 99) (n := 7) d_F_isRank_5 (by decide) rfl ?_
    refine V.icmp_gt C (tgt := 14) (n := 10) (iI_toInt (by omega) (by omega)) (nT (by omega)) d_F_isRank_7 (by decide) rfl (fun c7_2 => ?_) (fun c7_2 => ?_)
    · refine V.iconst C (v := nI 0) (n := 15) d_F_isRank_14 (by decide) rfl ?_
      exact V.zret C hr (bI_nar _) d_F_isRank_15 (by first | exact bI_1 (by omega) | exact bI_0 (by omega)) (rfl)
    · refine V.iconst C (v := nI 1) (n := 11) d_F_isRank_10 (by decide) rfl ?_
      refine V.goto C (n := 15) d_F_isRank_11 (by decide) ?_
      exact V.zret C hr (bI_nar _) d_F_isRank_15 (by first | exact bI_1 (by omega) | exact bI_0 (by omega)) (rfl)
set_option maxHeartbeats 4000000 in
set_option maxRecDepth 100000 in
theorem c_F_isIdentifier (l : Launch) (D : va_G) (cI cC : ClassId) (E : Nat → Nat) (X : Int) (hX : -2147483648 ≤ X ∧ X < 2147483648) : CI l D (TY cI cC E) m_F_isIdentifier (rmD 0) [.int (iI (X))] ([]) (bI (0 ≤ X ∧ X < 2048)) ([]) := by
  refine CI.of (by decide +kernel) (of_decide_eq_true rfl) ?_
  intro p e s m args below meth c C hr
  refine V.iload_n C (n := 1) (j := 0) d_F_isIdentifier_0 rfl rfl rfl ?_
  refine V.if_lt C (tgt := 15) (n := 4) (iI_toInt (by omega) (by omega)) d_F_isIdentifier_1 (by decide) rfl (fun c1_1 => ?_) (fun c1_1 => ?_)
  · refine V.iconst C (v := nI 0) (n := 16) d_F_isIdentifier_15 (by decide) rfl ?_
    exact V.zret C hr (bI_nar _) d_F_isIdentifier_16 (by first | exact bI_1 (by omega) | exact bI_0 (by omega)) (rfl)
  · refine V.iload_n C (n := 5) (j := 0) d_F_isIdentifier_4 rfl rfl rfl ?_
    refine V.sipush C (v := nI 2048) (n := 8) d_F_isIdentifier_5 (by decide) rfl ?_
    refine V.icmp_ge C (tgt := 15) (n := 11) (iI_toInt (by omega) (by omega)) (nT (by omega)) d_F_isIdentifier_8 (by decide) rfl (fun c8_2 => ?_) (fun c8_2 => ?_)
    · refine V.iconst C (v := nI 0) (n := 16) d_F_isIdentifier_15 (by decide) rfl ?_
      exact V.zret C hr (bI_nar _) d_F_isIdentifier_16 (by first | exact bI_1 (by omega) | exact bI_0 (by omega)) (rfl)
    · refine V.iconst C (v := nI 1) (n := 12) d_F_isIdentifier_11 (by decide) rfl ?_
      refine V.goto C (n := 16) d_F_isIdentifier_12 (by decide) ?_
      exact V.zret C hr (bI_nar _) d_F_isIdentifier_16 (by first | exact bI_1 (by omega) | exact bI_0 (by omega)) (rfl)
end
section
set_option maxHeartbeats 4000000 in
set_option maxRecDepth 100000 in
theorem c_F_frame_bad (l : Launch) (D : va_G) (cI cC : ClassId) (E : Nat → Nat) (o a : Nat → Nat) (dr sp tx pr se : Nat) (ex : Bool) (sd pd rk gp of to : Nat → Nat) (n : Nat) (X Y U : Int) (hT : TabOK sd pd rk gp of to n) (hX : -2147483648 ≤ X ∧ X < 2147483648) (hY : -2147483648 ≤ Y ∧ Y < 2147483648) (hU : -2147483648 ≤ U ∧ U < 2147483648) (hbad : ¬ (1 ≤ X ∧ X ≤ 20 ∧ 1 ≤ Y ∧ Y ≤ 60 ∧ 0 ≤ U ∧ U ≤ 99)) : CI l D (TY cI cC E) m_F_frame (rmD 2) [.ref (o 0), .int (iI (X)), .int (iI (Y)), .int (iI (U))] ((FtW o (a 0) dr sp tx pr se ex) ++ (TabW a cI sd pd rk gp of to n)) (iI (-2)) ((FtW o (a 0) dr sp tx pr se ex) ++ (TabW a cI sd pd rk gp of to n)) := by
  obtain ⟨hn, hsd, hpd, hrk, hgp, hof, hto⟩ := id hT
  refine CI.of (by decide +kernel) (of_decide_eq_true rfl) ?_
  intro p e s m args below meth c C hr
  refine V.iload_n C (n := 1) (j := 1) d_F_frame_0 rfl rfl rfl ?_
  refine V.callS_i C (n := 4) (ws' := (FtW o (a 0) dr sp tx pr se ex) ++ (TabW a cI sd pd rk gp of to n)) (c_F_isNode l D cI cC E (X) (by first | assumption | omega)) cw_F_53 [] [0, 1, 2, 3, 4, 5, 6, 7] [0, 1, 2, 3, 4, 5, 6, 7] rfl (of_decide_eq_true rfl) rfl (of_decide_eq_true rfl) rfl (of_decide_eq_true rfl) rfl (of_decide_eq_true rfl) rfl ⟨rfl, rfl⟩ ⟨by decide, by decide⟩ ⟨by decide, by decide⟩ rfl rfl (of_decide_eq_true rfl) d_F_frame_1 rfl ?_
  refine V.ifb_eq C (tgt := 21) (n := 7) d_F_frame_4 (by decide) rfl (fun c4_1 => ?_) (fun c4_1 => ?_)
  · refine V.bipush C (v := iI (-2)) (n := 23) d_F_frame_21 (by decide) rfl ?_
    exact V.iret C hr d_F_frame_23 (rfl) (rfl)
  · refine V.iload_n C (n := 8) (j := 2) d_F_frame_7 rfl rfl rfl ?_
    refine V.callS_i C (n := 11) (ws' := (FtW o (a 0) dr sp tx pr se ex) ++ (TabW a cI sd pd rk gp of to n)) (c_F_isPeriod l D cI cC E (Y) (by first | assumption | omega)) cw_F_57 [] [0, 1, 2, 3, 4, 5, 6, 7] [0, 1, 2, 3, 4, 5, 6, 7] rfl (of_decide_eq_true rfl) rfl (of_decide_eq_true rfl) rfl (of_decide_eq_true rfl) rfl (of_decide_eq_true rfl) rfl ⟨rfl, rfl⟩ ⟨by decide, by decide⟩ ⟨by decide, by decide⟩ rfl rfl (of_decide_eq_true rfl) d_F_frame_8 rfl ?_
    refine V.ifb_eq C (tgt := 21) (n := 14) d_F_frame_11 (by decide) rfl (fun c11_2 => ?_) (fun c11_2 => ?_)
    · refine V.bipush C (v := iI (-2)) (n := 23) d_F_frame_21 (by decide) rfl ?_
      exact V.iret C hr d_F_frame_23 (rfl) (rfl)
    · refine V.iload_n C (n := 15) (j := 3) d_F_frame_14 rfl rfl rfl ?_
      refine V.callS_i C (n := 18) (ws' := (FtW o (a 0) dr sp tx pr se ex) ++ (TabW a cI sd pd rk gp of to n)) (c_F_isRank l D cI cC E (U) (by first | assumption | omega)) cw_F_60 [] [0, 1, 2, 3, 4, 5, 6, 7] [0, 1, 2, 3, 4, 5, 6, 7] rfl (of_decide_eq_true rfl) rfl (of_decide_eq_true rfl) rfl (of_decide_eq_true rfl) rfl (of_decide_eq_true rfl) rfl ⟨rfl, rfl⟩ ⟨by decide, by decide⟩ ⟨by decide, by decide⟩ rfl rfl (of_decide_eq_true rfl) d_F_frame_15 rfl ?_
      refine V.ifb_ne C (tgt := 24) (n := 21) d_F_frame_18 (by decide) rfl (fun c18_3 => ?_) (fun c18_3 => ?_)
      · exfalso; omega
      · refine V.bipush C (v := iI (-2)) (n := 23) d_F_frame_21 (by decide) rfl ?_
        exact V.iret C hr d_F_frame_23 (rfl) (rfl)
set_option maxHeartbeats 4000000 in
set_option maxRecDepth 100000 in
theorem c_F_frame_full (l : Launch) (D : va_G) (cI cC : ClassId) (E : Nat → Nat) (o a : Nat → Nat) (dr sp tx pr se : Nat) (ex : Bool) (sd pd rk gp of to : Nat → Nat) (n : Nat) (X Y U : Int) (hT : TabOK sd pd rk gp of to n) (hX : -2147483648 ≤ X ∧ X < 2147483648) (hY : -2147483648 ≤ Y ∧ Y < 2147483648) (hU : -2147483648 ≤ U ∧ U < 2147483648) (hok : 1 ≤ X ∧ X ≤ 20 ∧ 1 ≤ Y ∧ Y ≤ 60 ∧ 0 ≤ U ∧ U ≤ 99) (hfull : 40 ≤ n) : CI l D (TY cI cC E) m_F_frame (rmD 2) [.ref (o 0), .int (iI (X)), .int (iI (Y)), .int (iI (U))] ((FtW o (a 0) dr sp tx pr se ex) ++ (TabW a cI sd pd rk gp of to n)) (iI (-4)) ((FtW o (a 0) dr sp tx pr se ex) ++ (TabW a cI sd pd rk gp of to n)) := by
  obtain ⟨hn, hsd, hpd, hrk, hgp, hof, hto⟩ := id hT
  refine CI.of (by decide +kernel) (of_decide_eq_true rfl) ?_
  intro p e s m args below meth c C hr
  refine V.iload_n C (n := 1) (j := 1) d_F_frame_0 rfl rfl rfl ?_
  refine V.callS_i C (n := 4) (ws' := (FtW o (a 0) dr sp tx pr se ex) ++ (TabW a cI sd pd rk gp of to n)) (c_F_isNode l D cI cC E (X) (by first | assumption | omega)) cw_F_53 [] [0, 1, 2, 3, 4, 5, 6, 7] [0, 1, 2, 3, 4, 5, 6, 7] rfl (of_decide_eq_true rfl) rfl (of_decide_eq_true rfl) rfl (of_decide_eq_true rfl) rfl (of_decide_eq_true rfl) rfl ⟨rfl, rfl⟩ ⟨by decide, by decide⟩ ⟨by decide, by decide⟩ rfl rfl (of_decide_eq_true rfl) d_F_frame_1 rfl ?_
  refine V.ifb_eq C (tgt := 21) (n := 7) d_F_frame_4 (by decide) rfl (fun c4_1 => ?_) (fun c4_1 => ?_)
  · exfalso; omega
  · refine V.iload_n C (n := 8) (j := 2) d_F_frame_7 rfl rfl rfl ?_
    refine V.callS_i C (n := 11) (ws' := (FtW o (a 0) dr sp tx pr se ex) ++ (TabW a cI sd pd rk gp of to n)) (c_F_isPeriod l D cI cC E (Y) (by first | assumption | omega)) cw_F_57 [] [0, 1, 2, 3, 4, 5, 6, 7] [0, 1, 2, 3, 4, 5, 6, 7] rfl (of_decide_eq_true rfl) rfl (of_decide_eq_true rfl) rfl (of_decide_eq_true rfl) rfl (of_decide_eq_true rfl) rfl ⟨rfl, rfl⟩ ⟨by decide, by decide⟩ ⟨by decide, by decide⟩ rfl rfl (of_decide_eq_true rfl) d_F_frame_8 rfl ?_
    refine V.ifb_eq C (tgt := 21) (n := 14) d_F_frame_11 (by decide) rfl (fun c11_2 => ?_) (fun c11_2 => ?_)
    · exfalso; omega
    · refine V.iload_n C (n := 15) (j := 3) d_F_frame_14 rfl rfl rfl ?_
      refine V.callS_i C (n := 18) (ws' := (FtW o (a 0) dr sp tx pr se ex) ++ (TabW a cI sd pd rk gp of to n)) (c_F_isRank l D cI cC E (U) (by first | assumption | omega)) cw_F_60 [] [0, 1, 2, 3, 4, 5, 6, 7] [0, 1, 2, 3, 4, 5, 6, 7] rfl (of_decide_eq_true rfl) rfl (of_decide_eq_true rfl) rfl (of_decide_eq_true rfl) rfl (of_decide_eq_true rfl) rfl ⟨rfl, rfl⟩ ⟨by decide, by decide⟩ ⟨by decide, by decide⟩ rfl rfl (of_decide_eq_true rfl) d_F_frame_15 rfl ?_
      refine V.ifb_ne C (tgt := 24) (n := 21) d_F_frame_18 (by decide) rfl (fun c18_3 => ?_) (fun c18_3 => ?_)
      · refine V.aload_n C (n := 25) (j := 0) d_F_frame_24 rfl rfl rfl ?_
        refine V.get C (n := 28) (q0 := 0) (k0 := 0) clOk_0 rfl (by decide) rfl fl_F_10 rfl d_F_frame_25 rfl ?_
        refine V.callV_i C (n := 31) (ws' := (FtW o (a 0) dr sp tx pr se ex) ++ (TabW a cI sd pd rk gp of to n)) (c_T_isFull l D cI cC E (a) (sd) (pd) (rk) (gp) (of) (to) (n) (by first | assumption | omega)) cw_F_63 [1, 2, 3, 4, 5, 6, 7] [0] [0, 1, 2, 3, 4, 5, 6, 7] (qr := 0) rfl rfl rfl (of_decide_eq_true rfl) rfl (of_decide_eq_true rfl) rfl (of_decide_eq_true rfl) rfl (of_decide_eq_true rfl) rfl ⟨rfl, rfl⟩ ⟨by decide, by decide⟩ ⟨by decide, by decide⟩ rfl rfl (of_decide_eq_true rfl) d_F_frame_28 rfl ?_
        refine V.ifb_eq C (tgt := 37) (n := 34) d_F_frame_31 (by decide) rfl (fun c31_4 => ?_) (fun c31_4 => ?_)
        · exfalso; omega
        · refine V.bipush C (v := iI (-4)) (n := 36) d_F_frame_34 (by decide) rfl ?_
          exact V.iret C hr d_F_frame_36 (rfl) (rfl)
      · exfalso; omega
set_option maxHeartbeats 4000000 in
set_option maxRecDepth 100000 in
theorem c_F_frame_ok (l : Launch) (D : va_G) (cI cC : ClassId) (E : Nat → Nat) (o a : Nat → Nat) (dr sp tx pr se : Nat) (ex : Bool) (sd pd rk gp of to : Nat → Nat) (n : Nat) (u v r : Nat) (hT : TabOK sd pd rk gp of to n) (hu : 1 ≤ u ∧ u ≤ 20) (hv : 1 ≤ v ∧ v ≤ 60) (hq : r ≤ 99) (hroom : n < 40) : CI l D (TY cI cC E) m_F_frame (rmD 2) [.ref (o 0), .int (nI u), .int (nI v), .int (nI r)] ((FtW o (a 0) dr sp tx pr se ex) ++ (TabW a cI sd pd rk gp of to n)) (nI (n + 1)) ((FtW o (a 0) dr sp tx pr se false) ++ (TabW a cI (updN sd (n + 1) u) (updN pd (n + 1) v) (updN rk (n + 1) r) (updN gp (n + 1) 0) (updN of (n + 1) 0) (clrT to (n + 1) 20) (n + 1))) := by
  obtain ⟨hn, hsd, hpd, hrk, hgp, hof, hto⟩ := id hT
  refine CI.of (by decide +kernel) (of_decide_eq_true rfl) ?_
  intro p e s m args below meth c C hr
  refine V.iload_n C (n := 1) (j := 1) d_F_frame_0 rfl rfl rfl ?_
  refine V.callS_i C (n := 4) (ws' := (FtW o (a 0) dr sp tx pr se ex) ++ (TabW a cI sd pd rk gp of to n)) (c_F_isNode l D cI cC E (((u : Nat) : Int)) (by first | assumption | omega)) cw_F_53 [] [0, 1, 2, 3, 4, 5, 6, 7] [0, 1, 2, 3, 4, 5, 6, 7] rfl (of_decide_eq_true rfl) rfl (of_decide_eq_true rfl) rfl (of_decide_eq_true rfl) rfl (of_decide_eq_true rfl) rfl ⟨rfl, rfl⟩ ⟨by decide, by decide⟩ ⟨by decide, by decide⟩ rfl (by first | rfl | (simp only [nI_iI]; done) | (simp only [nI_iI]; rfl)) (of_decide_eq_true rfl) d_F_frame_1 rfl ?_
  refine V.ifb_eq C (tgt := 21) (n := 7) d_F_frame_4 (by decide) rfl (fun c4_1 => ?_) (fun c4_1 => ?_)
  · exfalso; omega
  · refine V.iload_n C (n := 8) (j := 2) d_F_frame_7 rfl rfl rfl ?_
    refine V.callS_i C (n := 11) (ws' := (FtW o (a 0) dr sp tx pr se ex) ++ (TabW a cI sd pd rk gp of to n)) (c_F_isPeriod l D cI cC E (((v : Nat) : Int)) (by first | assumption | omega)) cw_F_57 [] [0, 1, 2, 3, 4, 5, 6, 7] [0, 1, 2, 3, 4, 5, 6, 7] rfl (of_decide_eq_true rfl) rfl (of_decide_eq_true rfl) rfl (of_decide_eq_true rfl) rfl (of_decide_eq_true rfl) rfl ⟨rfl, rfl⟩ ⟨by decide, by decide⟩ ⟨by decide, by decide⟩ rfl (by first | rfl | (simp only [nI_iI]; done) | (simp only [nI_iI]; rfl)) (of_decide_eq_true rfl) d_F_frame_8 rfl ?_
    refine V.ifb_eq C (tgt := 21) (n := 14) d_F_frame_11 (by decide) rfl (fun c11_2 => ?_) (fun c11_2 => ?_)
    · exfalso; omega
    · refine V.iload_n C (n := 15) (j := 3) d_F_frame_14 rfl rfl rfl ?_
      refine V.callS_i C (n := 18) (ws' := (FtW o (a 0) dr sp tx pr se ex) ++ (TabW a cI sd pd rk gp of to n)) (c_F_isRank l D cI cC E (((r : Nat) : Int)) (by first | assumption | omega)) cw_F_60 [] [0, 1, 2, 3, 4, 5, 6, 7] [0, 1, 2, 3, 4, 5, 6, 7] rfl (of_decide_eq_true rfl) rfl (of_decide_eq_true rfl) rfl (of_decide_eq_true rfl) rfl (of_decide_eq_true rfl) rfl ⟨rfl, rfl⟩ ⟨by decide, by decide⟩ ⟨by decide, by decide⟩ rfl (by first | rfl | (simp only [nI_iI]; done) | (simp only [nI_iI]; rfl)) (of_decide_eq_true rfl) d_F_frame_15 rfl ?_
      refine V.ifb_ne C (tgt := 24) (n := 21) d_F_frame_18 (by decide) rfl (fun c18_3 => ?_) (fun c18_3 => ?_)
      · refine V.aload_n C (n := 25) (j := 0) d_F_frame_24 rfl rfl rfl ?_
        refine V.get C (n := 28) (q0 := 0) (k0 := 0) clOk_0 rfl (by decide) rfl fl_F_10 rfl d_F_frame_25 rfl ?_
        refine V.callV_i C (n := 31) (ws' := (FtW o (a 0) dr sp tx pr se ex) ++ (TabW a cI sd pd rk gp of to n)) (c_T_isFull l D cI cC E (a) (sd) (pd) (rk) (gp) (of) (to) (n) (by first | assumption | omega)) cw_F_63 [1, 2, 3, 4, 5, 6, 7] [0] [0, 1, 2, 3, 4, 5, 6, 7] (qr := 0) rfl rfl rfl (of_decide_eq_true rfl) rfl (of_decide_eq_true rfl) rfl (of_decide_eq_true rfl) rfl (of_decide_eq_true rfl) rfl ⟨rfl, rfl⟩ ⟨by decide, by decide⟩ ⟨by decide, by decide⟩ rfl rfl (of_decide_eq_true rfl) d_F_frame_28 rfl ?_
        refine V.ifb_eq C (tgt := 37) (n := 34) d_F_frame_31 (by decide) rfl (fun c31_4 => ?_) (fun c31_4 => ?_)
        · refine V.aload_n C (n := 38) (j := 0) d_F_frame_37 rfl rfl rfl ?_
          refine V.iconst C (v := nI 0) (n := 39) d_F_frame_38 (by decide) rfl ?_
          refine V.cv C (y := bI (false = true)) (bI_0 (by decide)) ?_
          refine V.put C (n := 42) (q0 := 0) (k0 := 6) (ws' := (FtW o (a 0) dr sp tx pr se false) ++ (TabW a cI sd pd rk gp of to n)) clOk_0 rfl (by decide) rfl rfl fl_F_49 (bI_nar _) (bI_fit _) (of_decide_eq_true rfl) rfl d_F_frame_39 rfl ?_
          refine V.aload_n C (n := 43) (j := 0) d_F_frame_42 rfl rfl rfl ?_
          refine V.get C (n := 46) (q0 := 0) (k0 := 0) clOk_0 rfl (by decide) rfl fl_F_10 rfl d_F_frame_43 rfl ?_
          refine V.iload_n C (n := 47) (j := 1) d_F_frame_46 rfl rfl rfl ?_
          refine V.iload_n C (n := 48) (j := 2) d_F_frame_47 rfl rfl rfl ?_
          refine V.iload_n C (n := 49) (j := 3) d_F_frame_48 rfl rfl rfl ?_
          refine V.iconst C (v := nI 0) (n := 50) d_F_frame_49 (by decide) rfl ?_
          refine V.callV_i C (n := 53) (ws' := (FtW o (a 0) dr sp tx pr se false) ++ (TabW a cI (updN sd (n + 1) u) (updN pd (n + 1) v) (updN rk (n + 1) r) (updN gp (n + 1) 0) (updN of (n + 1) 0) (clrT to (n + 1) 20) (n + 1))) (c_T_append l D cI cC E (a) (sd) (pd) (rk) (gp) (of) (to) (n) (u) (v) (r) (0) (by first | assumption | omega) (by first | assumption | omega) (by first | assumption | omega) (by first | assumption | omega) (by first | assumption | omega) (by first | assumption | omega)) cw_F_67 [1, 2, 3, 4, 5, 6, 7] [0] [0, 1, 2, 3, 4, 5, 6, 7] (qr := 0) rfl rfl rfl (of_decide_eq_true rfl) rfl (of_decide_eq_true rfl) rfl (of_decide_eq_true rfl) rfl (of_decide_eq_true rfl) rfl ⟨rfl, rfl⟩ ⟨by decide, by decide⟩ ⟨by decide, by decide⟩ rfl rfl (of_decide_eq_true rfl) d_F_frame_50 rfl ?_
          exact V.iret C hr d_F_frame_53 (rfl) (rfl)
        · exfalso; omega
      · exfalso; omega
set_option maxHeartbeats 4000000 in
set_option maxRecDepth 100000 in
theorem c_F_reader_bad (l : Launch) (D : va_G) (cI cC : ClassId) (E : Nat → Nat) (o a : Nat → Nat) (dr sp tx pr se : Nat) (ex : Bool) (sd pd rk gp of to : Nat → Nat) (n : Nat) (X Y U : Int) (hT : TabOK sd pd rk gp of to n) (hX : -2147483648 ≤ X ∧ X < 2147483648) (hY : -2147483648 ≤ Y ∧ Y < 2147483648) (hU : -2147483648 ≤ U ∧ U < 2147483648) (hbad : ¬ (1 ≤ X ∧ X ≤ (n : Int) ∧ 1 ≤ Y ∧ Y ≤ 20)) : CI l D (TY cI cC E) m_F_reader (rmD 2) [.ref (o 0), .int (iI (X)), .int (iI (Y)), .int (iI (U))] ((FtW o (a 0) dr sp tx pr se ex) ++ (TabW a cI sd pd rk gp of to n)) (iI (-1)) ((FtW o (a 0) dr sp tx pr se ex) ++ (TabW a cI sd pd rk gp of to n)) := by
  obtain ⟨hn, hsd, hpd, hrk, hgp, hof, hto⟩ := id hT
  refine CI.of (by decide +kernel) (of_decide_eq_true rfl) ?_
  intro p e s m args below meth c C hr
  refine V.aload_n C (n := 1) (j := 0) d_F_reader_0 rfl rfl rfl ?_
  refine V.get C (n := 4) (q0 := 0) (k0 := 0) clOk_0 rfl (by decide) rfl fl_F_10 rfl d_F_reader_1 rfl ?_
  refine V.iload_n C (n := 5) (j := 1) d_F_reader_4 rfl rfl rfl ?_
  refine V.callV_i C (n := 8) (ws' := (FtW o (a 0) dr sp tx pr se ex) ++ (TabW a cI sd pd rk gp of to n)) (c_T_has l D cI cC E (a) (sd) (pd) (rk) (gp) (of) (to) (n) (X) (by first | assumption | omega) (by first | assumption | omega)) cw_F_71 [1, 2, 3, 4, 5, 6, 7] [0] [0, 1, 2, 3, 4, 5, 6, 7] (qr := 0) rfl rfl rfl (of_decide_eq_true rfl) rfl (of_decide_eq_true rfl) rfl (of_decide_eq_true rfl) rfl (of_decide_eq_true rfl) rfl ⟨rfl, rfl⟩ ⟨by decide, by decide⟩ ⟨by decide, by decide⟩ rfl rfl (of_decide_eq_true rfl) d_F_reader_5 rfl ?_
  refine V.ifb_eq C (tgt := 18) (n := 11) d_F_reader_8 (by decide) rfl (fun c8_1 => ?_) (fun c8_1 => ?_)
  · refine V.iconst C (v := iI (-1)) (n := 19) d_F_reader_18 (by decide) rfl ?_
    exact V.iret C hr d_F_reader_19 (rfl) (rfl)
  · refine V.iload_n C (n := 12) (j := 2) d_F_reader_11 rfl rfl rfl ?_
    refine V.callS_i C (n := 15) (ws' := (FtW o (a 0) dr sp tx pr se ex) ++ (TabW a cI sd pd rk gp of to n)) (c_F_isNode l D cI cC E (Y) (by first | assumption | omega)) cw_F_53 [] [0, 1, 2, 3, 4, 5, 6, 7] [0, 1, 2, 3, 4, 5, 6, 7] rfl (of_decide_eq_true rfl) rfl (of_decide_eq_true rfl) rfl (of_decide_eq_true rfl) rfl (of_decide_eq_true rfl) rfl ⟨rfl, rfl⟩ ⟨by decide, by decide⟩ ⟨by decide, by decide⟩ rfl rfl (of_decide_eq_true rfl) d_F_reader_12 rfl ?_
    refine V.ifb_ne C (tgt := 20) (n := 18) d_F_reader_15 (by decide) rfl (fun c15_2 => ?_) (fun c15_2 => ?_)
    · exfalso; omega
    · refine V.iconst C (v := iI (-1)) (n := 19) d_F_reader_18 (by decide) rfl ?_
      exact V.iret C hr d_F_reader_19 (rfl) (rfl)
set_option maxHeartbeats 4000000 in
set_option maxRecDepth 100000 in
theorem c_F_reader_out (l : Launch) (D : va_G) (cI cC : ClassId) (E : Nat → Nat) (o a : Nat → Nat) (dr sp tx pr se : Nat) (ex : Bool) (sd pd rk gp of to : Nat → Nat) (n : Nat) (X Y U : Int) (hT : TabOK sd pd rk gp of to n) (hX : -2147483648 ≤ X ∧ X < 2147483648) (hY : -2147483648 ≤ Y ∧ Y < 2147483648) (hU : -2147483648 ≤ U ∧ U < 2147483648) (hok : 1 ≤ X ∧ X ≤ (n : Int) ∧ 1 ≤ Y ∧ Y ≤ 20) (hbad : ¬ (0 ≤ U ∧ U ≤ 10000)) : CI l D (TY cI cC E) m_F_reader (rmD 2) [.ref (o 0), .int (iI (X)), .int (iI (Y)), .int (iI (U))] ((FtW o (a 0) dr sp tx pr se ex) ++ (TabW a cI sd pd rk gp of to n)) (iI (-2)) ((FtW o (a 0) dr sp tx pr se ex) ++ (TabW a cI sd pd rk gp of to n)) := by
  obtain ⟨hn, hsd, hpd, hrk, hgp, hof, hto⟩ := id hT
  refine CI.of (by decide +kernel) (of_decide_eq_true rfl) ?_
  intro p e s m args below meth c C hr
  refine V.aload_n C (n := 1) (j := 0) d_F_reader_0 rfl rfl rfl ?_
  refine V.get C (n := 4) (q0 := 0) (k0 := 0) clOk_0 rfl (by decide) rfl fl_F_10 rfl d_F_reader_1 rfl ?_
  refine V.iload_n C (n := 5) (j := 1) d_F_reader_4 rfl rfl rfl ?_
  refine V.callV_i C (n := 8) (ws' := (FtW o (a 0) dr sp tx pr se ex) ++ (TabW a cI sd pd rk gp of to n)) (c_T_has l D cI cC E (a) (sd) (pd) (rk) (gp) (of) (to) (n) (X) (by first | assumption | omega) (by first | assumption | omega)) cw_F_71 [1, 2, 3, 4, 5, 6, 7] [0] [0, 1, 2, 3, 4, 5, 6, 7] (qr := 0) rfl rfl rfl (of_decide_eq_true rfl) rfl (of_decide_eq_true rfl) rfl (of_decide_eq_true rfl) rfl (of_decide_eq_true rfl) rfl ⟨rfl, rfl⟩ ⟨by decide, by decide⟩ ⟨by decide, by decide⟩ rfl rfl (of_decide_eq_true rfl) d_F_reader_5 rfl ?_
  refine V.ifb_eq C (tgt := 18) (n := 11) d_F_reader_8 (by decide) rfl (fun c8_1 => ?_) (fun c8_1 => ?_)
  · exfalso; omega
  · refine V.iload_n C (n := 12) (j := 2) d_F_reader_11 rfl rfl rfl ?_
    refine V.callS_i C (n := 15) (ws' := (FtW o (a 0) dr sp tx pr se ex) ++ (TabW a cI sd pd rk gp of to n)) (c_F_isNode l D cI cC E (Y) (by first | assumption | omega)) cw_F_53 [] [0, 1, 2, 3, 4, 5, 6, 7] [0, 1, 2, 3, 4, 5, 6, 7] rfl (of_decide_eq_true rfl) rfl (of_decide_eq_true rfl) rfl (of_decide_eq_true rfl) rfl (of_decide_eq_true rfl) rfl ⟨rfl, rfl⟩ ⟨by decide, by decide⟩ ⟨by decide, by decide⟩ rfl rfl (of_decide_eq_true rfl) d_F_reader_12 rfl ?_
    refine V.ifb_ne C (tgt := 20) (n := 18) d_F_reader_15 (by decide) rfl (fun c15_2 => ?_) (fun c15_2 => ?_)
    · refine V.iload_n C (n := 21) (j := 3) d_F_reader_20 rfl rfl rfl ?_
      refine V.if_lt C (tgt := 31) (n := 24) (iI_toInt (by omega) (by omega)) d_F_reader_21 (by decide) rfl (fun c21_3 => ?_) (fun c21_3 => ?_)
      · refine V.bipush C (v := iI (-2)) (n := 33) d_F_reader_31 (by decide) rfl ?_
        exact V.iret C hr d_F_reader_33 (rfl) (rfl)
      · refine V.iload_n C (n := 25) (j := 3) d_F_reader_24 rfl rfl rfl ?_
        refine V.sipush C (v := nI 10000) (n := 28) d_F_reader_25 (by decide) rfl ?_
        refine V.icmp_le C (tgt := 34) (n := 31) (iI_toInt (by omega) (by omega)) (nT (by omega)) d_F_reader_28 (by decide) rfl (fun c28_4 => ?_) (fun c28_4 => ?_)
        · exfalso; omega
        · refine V.bipush C (v := iI (-2)) (n := 33) d_F_reader_31 (by decide) rfl ?_
          exact V.iret C hr d_F_reader_33 (rfl) (rfl)
    · exfalso; omega
set_option maxHeartbeats 4000000 in
set_option maxRecDepth 100000 in
theorem c_F_reader_own (l : Launch) (D : va_G) (cI cC : ClassId) (E : Nat → Nat) (o a : Nat → Nat) (dr sp tx pr se : Nat) (ex : Bool) (sd pd rk gp of to : Nat → Nat) (n : Nat) (f k t : Nat) (hT : TabOK sd pd rk gp of to n) (hf : 1 ≤ f ∧ f ≤ n) (hk : 1 ≤ k ∧ k ≤ 20) (ht : t ≤ 10000) (hs : sd f = k) : CI l D (TY cI cC E) m_F_reader (rmD 2) [.ref (o 0), .int (nI f), .int (nI k), .int (nI t)] ((FtW o (a 0) dr sp tx pr se ex) ++ (TabW a cI sd pd rk gp of to n)) (iI (-3)) ((FtW o (a 0) dr sp tx pr se ex) ++ (TabW a cI sd pd rk gp of to n)) := by
  obtain ⟨hn, hsd, hpd, hrk, hgp, hof, hto⟩ := id hT
  refine CI.of (by decide +kernel) (of_decide_eq_true rfl) ?_
  intro p e s m args below meth c C hr
  refine V.aload_n C (n := 1) (j := 0) d_F_reader_0 rfl rfl rfl ?_
  refine V.get C (n := 4) (q0 := 0) (k0 := 0) clOk_0 rfl (by decide) rfl fl_F_10 rfl d_F_reader_1 rfl ?_
  refine V.iload_n C (n := 5) (j := 1) d_F_reader_4 rfl rfl rfl ?_
  refine V.callV_i C (n := 8) (ws' := (FtW o (a 0) dr sp tx pr se ex) ++ (TabW a cI sd pd rk gp of to n)) (c_T_has l D cI cC E (a) (sd) (pd) (rk) (gp) (of) (to) (n) (((f : Nat) : Int)) (by first | assumption | omega) (by first | assumption | omega)) cw_F_71 [1, 2, 3, 4, 5, 6, 7] [0] [0, 1, 2, 3, 4, 5, 6, 7] (qr := 0) rfl rfl rfl (of_decide_eq_true rfl) rfl (of_decide_eq_true rfl) rfl (of_decide_eq_true rfl) rfl (of_decide_eq_true rfl) rfl ⟨rfl, rfl⟩ ⟨by decide, by decide⟩ ⟨by decide, by decide⟩ rfl (by first | rfl | (simp only [nI_iI]; done) | (simp only [nI_iI]; rfl)) (of_decide_eq_true rfl) d_F_reader_5 rfl ?_
  refine V.ifb_eq C (tgt := 18) (n := 11) d_F_reader_8 (by decide) rfl (fun c8_1 => ?_) (fun c8_1 => ?_)
  · exfalso; omega
  · refine V.iload_n C (n := 12) (j := 2) d_F_reader_11 rfl rfl rfl ?_
    refine V.callS_i C (n := 15) (ws' := (FtW o (a 0) dr sp tx pr se ex) ++ (TabW a cI sd pd rk gp of to n)) (c_F_isNode l D cI cC E (((k : Nat) : Int)) (by first | assumption | omega)) cw_F_53 [] [0, 1, 2, 3, 4, 5, 6, 7] [0, 1, 2, 3, 4, 5, 6, 7] rfl (of_decide_eq_true rfl) rfl (of_decide_eq_true rfl) rfl (of_decide_eq_true rfl) rfl (of_decide_eq_true rfl) rfl ⟨rfl, rfl⟩ ⟨by decide, by decide⟩ ⟨by decide, by decide⟩ rfl (by first | rfl | (simp only [nI_iI]; done) | (simp only [nI_iI]; rfl)) (of_decide_eq_true rfl) d_F_reader_12 rfl ?_
    refine V.ifb_ne C (tgt := 20) (n := 18) d_F_reader_15 (by decide) rfl (fun c15_2 => ?_) (fun c15_2 => ?_)
    · refine V.iload_n C (n := 21) (j := 3) d_F_reader_20 rfl rfl rfl ?_
      refine V.ifn_lt C (tgt := 31) (n := 24) (by omega) d_F_reader_21 (by decide) rfl (fun c21_3 => ?_) (fun c21_3 => ?_)
      · exfalso; omega
      · refine V.iload_n C (n := 25) (j := 3) d_F_reader_24 rfl rfl rfl ?_
        refine V.sipush C (v := nI 10000) (n := 28) d_F_reader_25 (by decide) rfl ?_
        refine V.icmpn_le C (tgt := 34) (n := 31) (by omega) (by omega) d_F_reader_28 (by decide) rfl (fun c28_4 => ?_) (fun c28_4 => ?_)
        · refine V.aload_n C (n := 35) (j := 0) d_F_reader_34 rfl rfl rfl ?_
          refine V.get C (n := 38) (q0 := 0) (k0 := 0) clOk_0 rfl (by decide) rfl fl_F_10 rfl d_F_reader_35 rfl ?_
          refine V.iload_n C (n := 39) (j := 1) d_F_reader_38 rfl rfl rfl ?_
          refine V.callV_i C (n := 42) (ws' := (FtW o (a 0) dr sp tx pr se ex) ++ (TabW a cI sd pd rk gp of to n)) (c_T_senderOf l D cI cC E (a) (sd) (pd) (rk) (gp) (of) (to) (n) (f) (by first | assumption | omega) (by first | assumption | omega)) cw_F_74 [1, 2, 3, 4, 5, 6, 7] [0] [0, 1, 2, 3, 4, 5, 6, 7] (qr := 0) rfl rfl rfl (of_decide_eq_true rfl) rfl (of_decide_eq_true rfl) rfl (of_decide_eq_true rfl) rfl (of_decide_eq_true rfl) rfl ⟨rfl, rfl⟩ ⟨by decide, by decide⟩ ⟨by decide, by decide⟩ rfl rfl (of_decide_eq_true rfl) d_F_reader_39 rfl ?_
          have b_1 := hsd (f)
          refine V.iload_n C (n := 43) (j := 2) d_F_reader_42 rfl rfl rfl ?_
          refine V.icmpn_ne C (tgt := 49) (n := 46) (by omega) (by omega) d_F_reader_43 (by decide) rfl (fun c43_5 => ?_) (fun c43_5 => ?_)
          · exfalso; omega
          · refine V.bipush C (v := iI (-3)) (n := 48) d_F_reader_46 (by decide) rfl ?_
            exact V.iret C hr d_F_reader_48 (rfl) (rfl)
        · exfalso; omega
    · exfalso; omega
set_option maxHeartbeats 4000000 in
set_option maxRecDepth 100000 in
theorem c_F_reader_ok (l : Launch) (D : va_G) (cI cC : ClassId) (E : Nat → Nat) (o a : Nat → Nat) (dr sp tx pr se : Nat) (ex : Bool) (sd pd rk gp of to : Nat → Nat) (n : Nat) (f k t : Nat) (hT : TabOK sd pd rk gp of to n) (hf : 1 ≤ f ∧ f ≤ n) (hk : 1 ≤ k ∧ k ≤ 20) (ht : t ≤ 10000) (hs : sd f ≠ k) : CI l D (TY cI cC E) m_F_reader (rmD 3) [.ref (o 0), .int (nI f), .int (nI k), .int (nI t)] ((FtW o (a 0) dr sp tx pr se ex) ++ (TabW a cI sd pd rk gp of to n)) (nI (cntB (fun k9 => decide (0 < updN to (f * 21 + k) t (f * 21 + k9))) 20)) ((FtW o (a 0) dr sp tx pr se ex) ++ (TabW a cI sd pd rk gp of (updN to (f * 21 + k) t) n)) := by
  obtain ⟨hn, hsd, hpd, hrk, hgp, hof, hto⟩ := id hT
  refine CI.of (by decide +kernel) (of_decide_eq_true rfl) ?_
  intro p e s m args below meth c C hr
  refine V.aload_n C (n := 1) (j := 0) d_F_reader_0 rfl rfl rfl ?_
  refine V.get C (n := 4) (q0 := 0) (k0 := 0) clOk_0 rfl (by decide) rfl fl_F_10 rfl d_F_reader_1 rfl ?_
  refine V.iload_n C (n := 5) (j := 1) d_F_reader_4 rfl rfl rfl ?_
  refine V.callV_i C (n := 8) (ws' := (FtW o (a 0) dr sp tx pr se ex) ++ (TabW a cI sd pd rk gp of to n)) (c_T_has l D cI cC E (a) (sd) (pd) (rk) (gp) (of) (to) (n) (((f : Nat) : Int)) (by first | assumption | omega) (by first | assumption | omega)) cw_F_71 [1, 2, 3, 4, 5, 6, 7] [0] [0, 1, 2, 3, 4, 5, 6, 7] (qr := 0) rfl rfl rfl (of_decide_eq_true rfl) rfl (of_decide_eq_true rfl) rfl (of_decide_eq_true rfl) rfl (of_decide_eq_true rfl) rfl ⟨rfl, rfl⟩ ⟨by decide, by decide⟩ ⟨by decide, by decide⟩ rfl (by first | rfl | (simp only [nI_iI]; done) | (simp only [nI_iI]; rfl)) (of_decide_eq_true rfl) d_F_reader_5 rfl ?_
  refine V.ifb_eq C (tgt := 18) (n := 11) d_F_reader_8 (by decide) rfl (fun c8_1 => ?_) (fun c8_1 => ?_)
  · exfalso; omega
  · refine V.iload_n C (n := 12) (j := 2) d_F_reader_11 rfl rfl rfl ?_
    refine V.callS_i C (n := 15) (ws' := (FtW o (a 0) dr sp tx pr se ex) ++ (TabW a cI sd pd rk gp of to n)) (c_F_isNode l D cI cC E (((k : Nat) : Int)) (by first | assumption | omega)) cw_F_53 [] [0, 1, 2, 3, 4, 5, 6, 7] [0, 1, 2, 3, 4, 5, 6, 7] rfl (of_decide_eq_true rfl) rfl (of_decide_eq_true rfl) rfl (of_decide_eq_true rfl) rfl (of_decide_eq_true rfl) rfl ⟨rfl, rfl⟩ ⟨by decide, by decide⟩ ⟨by decide, by decide⟩ rfl (by first | rfl | (simp only [nI_iI]; done) | (simp only [nI_iI]; rfl)) (of_decide_eq_true rfl) d_F_reader_12 rfl ?_
    refine V.ifb_ne C (tgt := 20) (n := 18) d_F_reader_15 (by decide) rfl (fun c15_2 => ?_) (fun c15_2 => ?_)
    · refine V.iload_n C (n := 21) (j := 3) d_F_reader_20 rfl rfl rfl ?_
      refine V.ifn_lt C (tgt := 31) (n := 24) (by omega) d_F_reader_21 (by decide) rfl (fun c21_3 => ?_) (fun c21_3 => ?_)
      · exfalso; omega
      · refine V.iload_n C (n := 25) (j := 3) d_F_reader_24 rfl rfl rfl ?_
        refine V.sipush C (v := nI 10000) (n := 28) d_F_reader_25 (by decide) rfl ?_
        refine V.icmpn_le C (tgt := 34) (n := 31) (by omega) (by omega) d_F_reader_28 (by decide) rfl (fun c28_4 => ?_) (fun c28_4 => ?_)
        · refine V.aload_n C (n := 35) (j := 0) d_F_reader_34 rfl rfl rfl ?_
          refine V.get C (n := 38) (q0 := 0) (k0 := 0) clOk_0 rfl (by decide) rfl fl_F_10 rfl d_F_reader_35 rfl ?_
          refine V.iload_n C (n := 39) (j := 1) d_F_reader_38 rfl rfl rfl ?_
          refine V.callV_i C (n := 42) (ws' := (FtW o (a 0) dr sp tx pr se ex) ++ (TabW a cI sd pd rk gp of to n)) (c_T_senderOf l D cI cC E (a) (sd) (pd) (rk) (gp) (of) (to) (n) (f) (by first | assumption | omega) (by first | assumption | omega)) cw_F_74 [1, 2, 3, 4, 5, 6, 7] [0] [0, 1, 2, 3, 4, 5, 6, 7] (qr := 0) rfl rfl rfl (of_decide_eq_true rfl) rfl (of_decide_eq_true rfl) rfl (of_decide_eq_true rfl) rfl (of_decide_eq_true rfl) rfl ⟨rfl, rfl⟩ ⟨by decide, by decide⟩ ⟨by decide, by decide⟩ rfl rfl (of_decide_eq_true rfl) d_F_reader_39 rfl ?_
          have b_1 := hsd (f)
          refine V.iload_n C (n := 43) (j := 2) d_F_reader_42 rfl rfl rfl ?_
          refine V.icmpn_ne C (tgt := 49) (n := 46) (by omega) (by omega) d_F_reader_43 (by decide) rfl (fun c43_5 => ?_) (fun c43_5 => ?_)
          · refine V.aload_n C (n := 50) (j := 0) d_F_reader_49 rfl rfl rfl ?_
            refine V.get C (n := 53) (q0 := 0) (k0 := 0) clOk_0 rfl (by decide) rfl fl_F_10 rfl d_F_reader_50 rfl ?_
            refine V.iload_n C (n := 54) (j := 1) d_F_reader_53 rfl rfl rfl ?_
            refine V.iload_n C (n := 55) (j := 2) d_F_reader_54 rfl rfl rfl ?_
            refine V.iload_n C (n := 56) (j := 3) d_F_reader_55 rfl rfl rfl ?_
            refine V.callV_v C (n := 59) (ws2 := fun _ => (FtW o (a 0) dr sp tx pr se ex) ++ (TabW a cI sd pd rk gp of (updN to (f * 21 + k) t) n)) (c_T_setTimeout l D cI cC E (a) (sd) (pd) (rk) (gp) (of) (to) (n) (f) (k) (t) (by first | assumption | omega) (by first | assumption | omega) (by first | assumption | omega) (by first | assumption | omega)) cw_F_78 [1, 2, 3, 4, 5, 6, 7] [0] [0, 1, 2, 3, 4, 5, 6, 7] (qr := 0) rfl rfl rfl (of_decide_eq_true rfl) rfl (of_decide_eq_true rfl) rfl (of_decide_eq_true rfl) (fun _ => rfl) (fun _ => of_decide_eq_true rfl) rfl ⟨rfl, rfl⟩ ⟨by decide, by decide⟩ ⟨by decide, by decide⟩ rfl rfl (of_decide_eq_true rfl) d_F_reader_56 rfl (fun _ _ => ?_)
            refine V.aload_n C (n := 60) (j := 0) d_F_reader_59 rfl rfl rfl ?_
            refine V.get C (n := 63) (q0 := 0) (k0 := 0) clOk_0 rfl (by decide) rfl fl_F_10 rfl d_F_reader_60 rfl ?_
            refine V.iload_n C (n := 64) (j := 1) d_F_reader_63 rfl rfl rfl ?_
            refine V.callV_i C (n := 67) (ws' := (FtW o (a 0) dr sp tx pr se ex) ++ (TabW a cI sd pd rk gp of (updN to (f * 21 + k) t) n)) (c_T_readersOf l D cI cC E (a) (sd) (pd) (rk) (gp) (of) (updN to (f * 21 + k) t) (n) (f) (TabOK_to hT ht) (by first | assumption | omega)) cw_F_82 [1, 2, 3, 4, 5, 6, 7] [0] [0, 1, 2, 3, 4, 5, 6, 7] (qr := 0) rfl rfl rfl (of_decide_eq_true rfl) rfl (of_decide_eq_true rfl) rfl (of_decide_eq_true rfl) rfl (of_decide_eq_true rfl) rfl ⟨rfl, rfl⟩ ⟨by decide, by decide⟩ ⟨by decide, by decide⟩ rfl rfl (of_decide_eq_true rfl) d_F_reader_64 rfl ?_
            exact V.iret C hr d_F_reader_67 (rfl) (rfl)
          · exfalso; omega
        · exfalso; omega
    · exfalso; omega
set_option maxHeartbeats 4000000 in
set_option maxRecDepth 100000 in
theorem c_F_at_bad (l : Launch) (D : va_G) (cI cC : ClassId) (E : Nat → Nat) (o a : Nat → Nat) (dr sp tx pr se : Nat) (ex : Bool) (sd pd rk gp of to : Nat → Nat) (n : Nat) (X : Int) (hT : TabOK sd pd rk gp of to n) (hX : -2147483648 ≤ X ∧ X < 2147483648) (hbad : ¬ (1 ≤ X ∧ X ≤ (n : Int))) : CI l D (TY cI cC E) m_F_at (rmD 1) [.ref (o 0), .int (iI (X))] ((FtW o (a 0) dr sp tx pr se ex) ++ (TabW a cI sd pd rk gp of to n)) (iI (-1)) ((FtW o (a 0) dr sp tx pr se ex) ++ (TabW a cI sd pd rk gp of to n)) := by
  obtain ⟨hn, hsd, hpd, hrk, hgp, hof, hto⟩ := id hT
  refine CI.of (by decide +kernel) (of_decide_eq_true rfl) ?_
  intro p e s m args below meth c C hr
  refine V.aload_n C (n := 1) (j := 0) d_F_at_0 rfl rfl rfl ?_
  refine V.get C (n := 4) (q0 := 0) (k0 := 0) clOk_0 rfl (by decide) rfl fl_F_10 rfl d_F_at_1 rfl ?_
  refine V.iload_n C (n := 5) (j := 1) d_F_at_4 rfl rfl rfl ?_
  refine V.callV_i C (n := 8) (ws' := (FtW o (a 0) dr sp tx pr se ex) ++ (TabW a cI sd pd rk gp of to n)) (c_T_has l D cI cC E (a) (sd) (pd) (rk) (gp) (of) (to) (n) (X) (by first | assumption | omega) (by first | assumption | omega)) cw_F_71 [1, 2, 3, 4, 5, 6, 7] [0] [0, 1, 2, 3, 4, 5, 6, 7] (qr := 0) rfl rfl rfl (of_decide_eq_true rfl) rfl (of_decide_eq_true rfl) rfl (of_decide_eq_true rfl) rfl (of_decide_eq_true rfl) rfl ⟨rfl, rfl⟩ ⟨by decide, by decide⟩ ⟨by decide, by decide⟩ rfl rfl (of_decide_eq_true rfl) d_F_at_5 rfl ?_
  refine V.ifb_eq C (tgt := 22) (n := 11) d_F_at_8 (by decide) rfl (fun c8_1 => ?_) (fun c8_1 => ?_)
  · refine V.iconst C (v := iI (-1)) (n := 23) d_F_at_22 (by decide) rfl ?_
    exact V.iret C hr d_F_at_23 (rfl) (rfl)
  · exfalso; omega
set_option maxHeartbeats 4000000 in
set_option maxRecDepth 100000 in
theorem c_F_at_ok (l : Launch) (D : va_G) (cI cC : ClassId) (E : Nat → Nat) (o a : Nat → Nat) (dr sp tx pr se : Nat) (ex : Bool) (sd pd rk gp of to : Nat → Nat) (n : Nat) (f : Nat) (hT : TabOK sd pd rk gp of to n) (hf : 1 ≤ f ∧ f ≤ n) : CI l D (TY cI cC E) m_F_at (rmD 1) [.ref (o 0), .int (nI f)] ((FtW o (a 0) dr sp tx pr se ex) ++ (TabW a cI sd pd rk gp of to n)) (nI (of f)) ((FtW o (a 0) dr sp tx pr se ex) ++ (TabW a cI sd pd rk gp of to n)) := by
  obtain ⟨hn, hsd, hpd, hrk, hgp, hof, hto⟩ := id hT
  refine CI.of (by decide +kernel) (of_decide_eq_true rfl) ?_
  intro p e s m args below meth c C hr
  refine V.aload_n C (n := 1) (j := 0) d_F_at_0 rfl rfl rfl ?_
  refine V.get C (n := 4) (q0 := 0) (k0 := 0) clOk_0 rfl (by decide) rfl fl_F_10 rfl d_F_at_1 rfl ?_
  refine V.iload_n C (n := 5) (j := 1) d_F_at_4 rfl rfl rfl ?_
  refine V.callV_i C (n := 8) (ws' := (FtW o (a 0) dr sp tx pr se ex) ++ (TabW a cI sd pd rk gp of to n)) (c_T_has l D cI cC E (a) (sd) (pd) (rk) (gp) (of) (to) (n) (((f : Nat) : Int)) (by first | assumption | omega) (by first | assumption | omega)) cw_F_71 [1, 2, 3, 4, 5, 6, 7] [0] [0, 1, 2, 3, 4, 5, 6, 7] (qr := 0) rfl rfl rfl (of_decide_eq_true rfl) rfl (of_decide_eq_true rfl) rfl (of_decide_eq_true rfl) rfl (of_decide_eq_true rfl) rfl ⟨rfl, rfl⟩ ⟨by decide, by decide⟩ ⟨by decide, by decide⟩ rfl (by first | rfl | (simp only [nI_iI]; done) | (simp only [nI_iI]; rfl)) (of_decide_eq_true rfl) d_F_at_5 rfl ?_
  refine V.ifb_eq C (tgt := 22) (n := 11) d_F_at_8 (by decide) rfl (fun c8_1 => ?_) (fun c8_1 => ?_)
  · exfalso; omega
  · refine V.aload_n C (n := 12) (j := 0) d_F_at_11 rfl rfl rfl ?_
    refine V.get C (n := 15) (q0 := 0) (k0 := 0) clOk_0 rfl (by decide) rfl fl_F_10 rfl d_F_at_12 rfl ?_
    refine V.iload_n C (n := 16) (j := 1) d_F_at_15 rfl rfl rfl ?_
    refine V.callV_i C (n := 19) (ws' := (FtW o (a 0) dr sp tx pr se ex) ++ (TabW a cI sd pd rk gp of to n)) (c_T_offsetOf l D cI cC E (a) (sd) (pd) (rk) (gp) (of) (to) (n) (f) (by first | assumption | omega) (by first | assumption | omega)) cw_F_117 [1, 2, 3, 4, 5, 6, 7] [0] [0, 1, 2, 3, 4, 5, 6, 7] (qr := 0) rfl rfl rfl (of_decide_eq_true rfl) rfl (of_decide_eq_true rfl) rfl (of_decide_eq_true rfl) rfl (of_decide_eq_true rfl) rfl ⟨rfl, rfl⟩ ⟨by decide, by decide⟩ ⟨by decide, by decide⟩ rfl rfl (of_decide_eq_true rfl) d_F_at_16 rfl ?_
    have b_1 := hof (f)
    refine V.goto C (n := 23) d_F_at_19 (by decide) ?_
    exact V.iret C hr d_F_at_23 (rfl) (rfl)
set_option maxHeartbeats 4000000 in
set_option maxRecDepth 100000 in
theorem c_F_exact (l : Launch) (D : va_G) (cI cC : ClassId) (E : Nat → Nat) (o a : Nat → Nat) (dr sp tx pr se : Nat) (ex : Bool) (sd pd rk gp of to : Nat → Nat) (n : Nat) (hT : TabOK sd pd rk gp of to n) : CI l D (TY cI cC E) m_F_exact (rmD 0) [.ref (o 0)] ((FtW o (a 0) dr sp tx pr se ex) ++ (TabW a cI sd pd rk gp of to n)) (bI (ex = true)) ((FtW o (a 0) dr sp tx pr se ex) ++ (TabW a cI sd pd rk gp of to n)) := by
  obtain ⟨hn, hsd, hpd, hrk, hgp, hof, hto⟩ := id hT
  refine CI.of (by decide +kernel) (of_decide_eq_true rfl) ?_
  intro p e s m args below meth c C hr
  refine V.aload_n C (n := 1) (j := 0) d_F_exact_0 rfl rfl rfl ?_
  refine V.get C (n := 4) (q0 := 0) (k0 := 6) clOk_0 rfl (by decide) rfl fl_F_49 rfl d_F_exact_1 rfl ?_
  exact V.zret C hr (bI_nar _) d_F_exact_4 (rfl) (rfl)
set_option maxHeartbeats 4000000 in
set_option maxRecDepth 100000 in
theorem c_F_gap_bad (l : Launch) (D : va_G) (cI cC : ClassId) (E : Nat → Nat) (o a : Nat → Nat) (dr sp tx pr se : Nat) (ex : Bool) (sd pd rk gp of to : Nat → Nat) (n : Nat) (X Y : Int) (hT : TabOK sd pd rk gp of to n) (hX : -2147483648 ≤ X ∧ X < 2147483648) (hY : -2147483648 ≤ Y ∧ Y < 2147483648) (hbad : ¬ (1 ≤ X ∧ X ≤ (n : Int))) : CI l D (TY cI cC E) m_F_gap (rmD 1) [.ref (o 0), .int (iI (X)), .int (iI (Y))] ((FtW o (a 0) dr sp tx pr se ex) ++ (TabW a cI sd pd rk gp of to n)) (iI (-1)) ((FtW o (a 0) dr sp tx pr se ex) ++ (TabW a cI sd pd rk gp of to n)) := by
  obtain ⟨hn, hsd, hpd, hrk, hgp, hof, hto⟩ := id hT
  refine CI.of (by decide +kernel) (of_decide_eq_true rfl) ?_
  intro p e s m args below meth c C hr
  refine V.aload_n C (n := 1) (j := 0) d_F_gap_0 rfl rfl rfl ?_
  refine V.get C (n := 4) (q0 := 0) (k0 := 0) clOk_0 rfl (by decide) rfl fl_F_10 rfl d_F_gap_1 rfl ?_
  refine V.iload_n C (n := 5) (j := 1) d_F_gap_4 rfl rfl rfl ?_
  refine V.callV_i C (n := 8) (ws' := (FtW o (a 0) dr sp tx pr se ex) ++ (TabW a cI sd pd rk gp of to n)) (c_T_has l D cI cC E (a) (sd) (pd) (rk) (gp) (of) (to) (n) (X) (by first | assumption | omega) (by first | assumption | omega)) cw_F_71 [1, 2, 3, 4, 5, 6, 7] [0] [0, 1, 2, 3, 4, 5, 6, 7] (qr := 0) rfl rfl rfl (of_decide_eq_true rfl) rfl (of_decide_eq_true rfl) rfl (of_decide_eq_true rfl) rfl (of_decide_eq_true rfl) rfl ⟨rfl, rfl⟩ ⟨by decide, by decide⟩ ⟨by decide, by decide⟩ rfl rfl (of_decide_eq_true rfl) d_F_gap_5 rfl ?_
  refine V.ifb_ne C (tgt := 13) (n := 11) d_F_gap_8 (by decide) rfl (fun c8_1 => ?_) (fun c8_1 => ?_)
  · exfalso; omega
  · refine V.iconst C (v := iI (-1)) (n := 12) d_F_gap_11 (by decide) rfl ?_
    exact V.iret C hr d_F_gap_12 (rfl) (rfl)
set_option maxHeartbeats 4000000 in
set_option maxRecDepth 100000 in
theorem c_F_gap_out (l : Launch) (D : va_G) (cI cC : ClassId) (E : Nat → Nat) (o a : Nat → Nat) (dr sp tx pr se : Nat) (ex : Bool) (sd pd rk gp of to : Nat → Nat) (n : Nat) (f : Nat) (Y : Int) (hT : TabOK sd pd rk gp of to n) (hY : -2147483648 ≤ Y ∧ Y < 2147483648) (hf : 1 ≤ f ∧ f ≤ n) (hbad : ¬ (0 ≤ Y ∧ Y ≤ (pd f : Int))) : CI l D (TY cI cC E) m_F_gap (rmD 1) [.ref (o 0), .int (nI f), .int (iI (Y))] ((FtW o (a 0) dr sp tx pr se ex) ++ (TabW a cI sd pd rk gp of to n)) (iI (-2)) ((FtW o (a 0) dr sp tx pr se ex) ++ (TabW a cI sd pd rk gp of to n)) := by
  obtain ⟨hn, hsd, hpd, hrk, hgp, hof, hto⟩ := id hT
  refine CI.of (by decide +kernel) (of_decide_eq_true rfl) ?_
  intro p e s m args below meth c C hr
  refine V.aload_n C (n := 1) (j := 0) d_F_gap_0 rfl rfl rfl ?_
  refine V.get C (n := 4) (q0 := 0) (k0 := 0) clOk_0 rfl (by decide) rfl fl_F_10 rfl d_F_gap_1 rfl ?_
  refine V.iload_n C (n := 5) (j := 1) d_F_gap_4 rfl rfl rfl ?_
  refine V.callV_i C (n := 8) (ws' := (FtW o (a 0) dr sp tx pr se ex) ++ (TabW a cI sd pd rk gp of to n)) (c_T_has l D cI cC E (a) (sd) (pd) (rk) (gp) (of) (to) (n) (((f : Nat) : Int)) (by first | assumption | omega) (by first | assumption | omega)) cw_F_71 [1, 2, 3, 4, 5, 6, 7] [0] [0, 1, 2, 3, 4, 5, 6, 7] (qr := 0) rfl rfl rfl (of_decide_eq_true rfl) rfl (of_decide_eq_true rfl) rfl (of_decide_eq_true rfl) rfl (of_decide_eq_true rfl) rfl ⟨rfl, rfl⟩ ⟨by decide, by decide⟩ ⟨by decide, by decide⟩ rfl (by first | rfl | (simp only [nI_iI]; done) | (simp only [nI_iI]; rfl)) (of_decide_eq_true rfl) d_F_gap_5 rfl ?_
  refine V.ifb_ne C (tgt := 13) (n := 11) d_F_gap_8 (by decide) rfl (fun c8_1 => ?_) (fun c8_1 => ?_)
  · refine V.iload_n C (n := 14) (j := 2) d_F_gap_13 rfl rfl rfl ?_
    refine V.if_lt C (tgt := 29) (n := 17) (iI_toInt (by omega) (by omega)) d_F_gap_14 (by decide) rfl (fun c14_2 => ?_) (fun c14_2 => ?_)
    · refine V.bipush C (v := iI (-2)) (n := 31) d_F_gap_29 (by decide) rfl ?_
      exact V.iret C hr d_F_gap_31 (rfl) (rfl)
    · refine V.iload_n C (n := 18) (j := 2) d_F_gap_17 rfl rfl rfl ?_
      refine V.aload_n C (n := 19) (j := 0) d_F_gap_18 rfl rfl rfl ?_
      refine V.get C (n := 22) (q0 := 0) (k0 := 0) clOk_0 rfl (by decide) rfl fl_F_10 rfl d_F_gap_19 rfl ?_
      refine V.iload_n C (n := 23) (j := 1) d_F_gap_22 rfl rfl rfl ?_
      refine V.callV_i C (n := 26) (ws' := (FtW o (a 0) dr sp tx pr se ex) ++ (TabW a cI sd pd rk gp of to n)) (c_T_periodOf l D cI cC E (a) (sd) (pd) (rk) (gp) (of) (to) (n) (f) (by first | assumption | omega) (by first | assumption | omega)) cw_F_120 [1, 2, 3, 4, 5, 6, 7] [0] [0, 1, 2, 3, 4, 5, 6, 7] (qr := 0) rfl rfl rfl (of_decide_eq_true rfl) rfl (of_decide_eq_true rfl) rfl (of_decide_eq_true rfl) rfl (of_decide_eq_true rfl) rfl ⟨rfl, rfl⟩ ⟨by decide, by decide⟩ ⟨by decide, by decide⟩ rfl rfl (of_decide_eq_true rfl) d_F_gap_23 rfl ?_
      have b_1 := hpd (f)
      refine V.icmp_le C (tgt := 32) (n := 29) (iI_toInt (by omega) (by omega)) (nT (by omega)) d_F_gap_26 (by decide) rfl (fun c26_3 => ?_) (fun c26_3 => ?_)
      · exfalso; omega
      · refine V.bipush C (v := iI (-2)) (n := 31) d_F_gap_29 (by decide) rfl ?_
        exact V.iret C hr d_F_gap_31 (rfl) (rfl)
  · exfalso; omega
set_option maxHeartbeats 4000000 in
set_option maxRecDepth 100000 in
theorem c_F_gap_ok (l : Launch) (D : va_G) (cI cC : ClassId) (E : Nat → Nat) (o a : Nat → Nat) (dr sp tx pr se : Nat) (ex : Bool) (sd pd rk gp of to : Nat → Nat) (n : Nat) (f t : Nat) (hT : TabOK sd pd rk gp of to n) (hf : 1 ≤ f ∧ f ≤ n) (ht : t ≤ pd f) : CI l D (TY cI cC E) m_F_gap (rmD 1) [.ref (o 0), .int (nI f), .int (nI t)] ((FtW o (a 0) dr sp tx pr se ex) ++ (TabW a cI sd pd rk gp of to n)) (nI 1) ((FtW o (a 0) dr sp tx pr se ex) ++ (TabW a cI sd pd rk (updN gp f t) of to n)) := by
  obtain ⟨hn, hsd, hpd, hrk, hgp, hof, hto⟩ := id hT
  have ht9 := hpd f
  refine CI.of (by decide +kernel) (of_decide_eq_true rfl) ?_
  intro p e s m args below meth c C hr
  refine V.aload_n C (n := 1) (j := 0) d_F_gap_0 rfl rfl rfl ?_
  refine V.get C (n := 4) (q0 := 0) (k0 := 0) clOk_0 rfl (by decide) rfl fl_F_10 rfl d_F_gap_1 rfl ?_
  refine V.iload_n C (n := 5) (j := 1) d_F_gap_4 rfl rfl rfl ?_
  refine V.callV_i C (n := 8) (ws' := (FtW o (a 0) dr sp tx pr se ex) ++ (TabW a cI sd pd rk gp of to n)) (c_T_has l D cI cC E (a) (sd) (pd) (rk) (gp) (of) (to) (n) (((f : Nat) : Int)) (by first | assumption | omega) (by first | assumption | omega)) cw_F_71 [1, 2, 3, 4, 5, 6, 7] [0] [0, 1, 2, 3, 4, 5, 6, 7] (qr := 0) rfl rfl rfl (of_decide_eq_true rfl) rfl (of_decide_eq_true rfl) rfl (of_decide_eq_true rfl) rfl (of_decide_eq_true rfl) rfl ⟨rfl, rfl⟩ ⟨by decide, by decide⟩ ⟨by decide, by decide⟩ rfl (by first | rfl | (simp only [nI_iI]; done) | (simp only [nI_iI]; rfl)) (of_decide_eq_true rfl) d_F_gap_5 rfl ?_
  refine V.ifb_ne C (tgt := 13) (n := 11) d_F_gap_8 (by decide) rfl (fun c8_1 => ?_) (fun c8_1 => ?_)
  · refine V.iload_n C (n := 14) (j := 2) d_F_gap_13 rfl rfl rfl ?_
    refine V.ifn_lt C (tgt := 29) (n := 17) (by omega) d_F_gap_14 (by decide) rfl (fun c14_2 => ?_) (fun c14_2 => ?_)
    · exfalso; omega
    · refine V.iload_n C (n := 18) (j := 2) d_F_gap_17 rfl rfl rfl ?_
      refine V.aload_n C (n := 19) (j := 0) d_F_gap_18 rfl rfl rfl ?_
      refine V.get C (n := 22) (q0 := 0) (k0 := 0) clOk_0 rfl (by decide) rfl fl_F_10 rfl d_F_gap_19 rfl ?_
      refine V.iload_n C (n := 23) (j := 1) d_F_gap_22 rfl rfl rfl ?_
      refine V.callV_i C (n := 26) (ws' := (FtW o (a 0) dr sp tx pr se ex) ++ (TabW a cI sd pd rk gp of to n)) (c_T_periodOf l D cI cC E (a) (sd) (pd) (rk) (gp) (of) (to) (n) (f) (by first | assumption | omega) (by first | assumption | omega)) cw_F_120 [1, 2, 3, 4, 5, 6, 7] [0] [0, 1, 2, 3, 4, 5, 6, 7] (qr := 0) rfl rfl rfl (of_decide_eq_true rfl) rfl (of_decide_eq_true rfl) rfl (of_decide_eq_true rfl) rfl (of_decide_eq_true rfl) rfl ⟨rfl, rfl⟩ ⟨by decide, by decide⟩ ⟨by decide, by decide⟩ rfl rfl (of_decide_eq_true rfl) d_F_gap_23 rfl ?_
      have b_1 := hpd (f)
      refine V.icmpn_le C (tgt := 32) (n := 29) (by omega) (by omega) d_F_gap_26 (by decide) rfl (fun c26_3 => ?_) (fun c26_3 => ?_)
      · refine V.aload_n C (n := 33) (j := 0) d_F_gap_32 rfl rfl rfl ?_
        refine V.get C (n := 36) (q0 := 0) (k0 := 0) clOk_0 rfl (by decide) rfl fl_F_10 rfl d_F_gap_33 rfl ?_
        refine V.iload_n C (n := 37) (j := 1) d_F_gap_36 rfl rfl rfl ?_
        refine V.iload_n C (n := 38) (j := 2) d_F_gap_37 rfl rfl rfl ?_
        refine V.callV_v C (n := 41) (ws2 := fun _ => (FtW o (a 0) dr sp tx pr se ex) ++ (TabW a cI sd pd rk (updN gp f t) of to n)) (c_T_setGap l D cI cC E (a) (sd) (pd) (rk) (gp) (of) (to) (n) (f) (t) (by first | assumption | omega) (by first | assumption | omega) (by first | assumption | omega)) cw_F_123 [1, 2, 3, 4, 5, 6, 7] [0] [0, 1, 2, 3, 4, 5, 6, 7] (qr := 0) rfl rfl rfl (of_decide_eq_true rfl) rfl (of_decide_eq_true rfl) rfl (of_decide_eq_true rfl) (fun _ => rfl) (fun _ => of_decide_eq_true rfl) rfl ⟨rfl, rfl⟩ ⟨by decide, by decide⟩ ⟨by decide, by decide⟩ rfl rfl (of_decide_eq_true rfl) d_F_gap_38 rfl (fun _ _ => ?_)
        refine V.iconst C (v := nI 1) (n := 42) d_F_gap_41 (by decide) rfl ?_
        exact V.iret C hr d_F_gap_42 (rfl) (rfl)
      · exfalso; omega
  · exfalso; omega
set_option maxHeartbeats 4000000 in
set_option maxRecDepth 100000 in
theorem c_F_touched_bad (l : Launch) (D : va_G) (cI cC : ClassId) (E : Nat → Nat) (o a : Nat → Nat) (dr sp tx pr se : Nat) (ex : Bool) (sd pd rk gp of to : Nat → Nat) (n : Nat) (X Y : Int) (hT : TabOK sd pd rk gp of to n) (hX : -2147483648 ≤ X ∧ X < 2147483648) (hY : -2147483648 ≤ Y ∧ Y < 2147483648) (hbad : ¬ (1 ≤ X ∧ X ≤ (n : Int))) : CI l D (TY cI cC E) m_F_touched (rmD 3) [.ref (o 0), .int (iI (X)), .int (iI (Y))] ((FtW o (a 0) dr sp tx pr se ex) ++ (TabW a cI sd pd rk gp of to n)) (iI (-1)) ((FtW o (a 0) dr sp tx pr se ex) ++ (TabW a cI sd pd rk gp of to n)) := by
  obtain ⟨hn, hsd, hpd, hrk, hgp, hof, hto⟩ := id hT
  refine CI.of (by decide +kernel) (of_decide_eq_true rfl) ?_
  intro p e s m args below meth c C hr
  refine V.aload_n C (n := 1) (j := 0) d_F_touched_0 rfl rfl rfl ?_
  refine V.get C (n := 4) (q0 := 0) (k0 := 0) clOk_0 rfl (by decide) rfl fl_F_10 rfl d_F_touched_1 rfl ?_
  refine V.iload_n C (n := 5) (j := 1) d_F_touched_4 rfl rfl rfl ?_
  refine V.callV_i C (n := 8) (ws' := (FtW o (a 0) dr sp tx pr se ex) ++ (TabW a cI sd pd rk gp of to n)) (c_T_has l D cI cC E (a) (sd) (pd) (rk) (gp) (of) (to) (n) (X) (by first | assumption | omega) (by first | assumption | omega)) cw_F_71 [1, 2, 3, 4, 5, 6, 7] [0] [0, 1, 2, 3, 4, 5, 6, 7] (qr := 0) rfl rfl rfl (of_decide_eq_true rfl) rfl (of_decide_eq_true rfl) rfl (of_decide_eq_true rfl) rfl (of_decide_eq_true rfl) rfl ⟨rfl, rfl⟩ ⟨by decide, by decide⟩ ⟨by decide, by decide⟩ rfl rfl (of_decide_eq_true rfl) d_F_touched_5 rfl ?_
  refine V.ifb_ne C (tgt := 13) (n := 11) d_F_touched_8 (by decide) rfl (fun c8_1 => ?_) (fun c8_1 => ?_)
  · exfalso; omega
  · refine V.iconst C (v := iI (-1)) (n := 12) d_F_touched_11 (by decide) rfl ?_
    exact V.iret C hr d_F_touched_12 (rfl) (rfl)
set_option maxHeartbeats 4000000 in
set_option maxRecDepth 100000 in
theorem c_F_touched_ok (l : Launch) (D : va_G) (cI cC : ClassId) (E : Nat → Nat) (o a : Nat → Nat) (dr sp tx pr se : Nat) (ex : Bool) (sd pd rk gp of to : Nat → Nat) (n : Nat) (f : Nat) (Y : Int) (hT : TabOK sd pd rk gp of to n) (hY : -2147483648 ≤ Y ∧ Y < 2147483648) (hf : 1 ≤ f ∧ f ≤ n) : CI l D (TY cI cC E) m_F_touched (rmD 3) [.ref (o 0), .int (nI f), .int (iI (Y))] ((FtW o (a 0) dr sp tx pr se ex) ++ (TabW a cI sd pd rk gp of to n)) (nI (nthB (fun k => decide (sd f = k ∨ 0 < to (f * 21 + k))) Y 20)) ((FtW o (a 0) dr sp tx pr se ex) ++ (TabW a cI sd pd rk gp of to n)) := by
  obtain ⟨hn, hsd, hpd, hrk, hgp, hof, hto⟩ := id hT
  refine CI.of (by decide +kernel) (of_decide_eq_true rfl) ?_
  intro p e s m args below meth c C hr
  refine V.aload_n C (n := 1) (j := 0) d_F_touched_0 rfl rfl rfl ?_
  refine V.get C (n := 4) (q0 := 0) (k0 := 0) clOk_0 rfl (by decide) rfl fl_F_10 rfl d_F_touched_1 rfl ?_
  refine V.iload_n C (n := 5) (j := 1) d_F_touched_4 rfl rfl rfl ?_
  refine V.callV_i C (n := 8) (ws' := (FtW o (a 0) dr sp tx pr se ex) ++ (TabW a cI sd pd rk gp of to n)) (c_T_has l D cI cC E (a) (sd) (pd) (rk) (gp) (of) (to) (n) (((f : Nat) : Int)) (by first | assumption | omega) (by first | assumption | omega)) cw_F_71 [1, 2, 3, 4, 5, 6, 7] [0] [0, 1, 2, 3, 4, 5, 6, 7] (qr := 0) rfl rfl rfl (of_decide_eq_true rfl) rfl (of_decide_eq_true rfl) rfl (of_decide_eq_true rfl) rfl (of_decide_eq_true rfl) rfl ⟨rfl, rfl⟩ ⟨by decide, by decide⟩ ⟨by decide, by decide⟩ rfl (by first | rfl | (simp only [nI_iI]; done) | (simp only [nI_iI]; rfl)) (of_decide_eq_true rfl) d_F_touched_5 rfl ?_
  refine V.ifb_ne C (tgt := 13) (n := 11) d_F_touched_8 (by decide) rfl (fun c8_1 => ?_) (fun c8_1 => ?_)
  · refine V.iconst C (v := nI 0) (n := 14) d_F_touched_13 (by decide) rfl ?_
    refine V.istore_n C (n := 15) (lv' := [(0, .ref (o 0)), (1, .int (nI f)), (2, .int (iI (Y))), (3, .int (nI 0))]) [1, 2, 3, 0] d_F_touched_14 rfl (by decide) rfl rfl ?_
    refine V.iconst C (v := nI 1) (n := 16) d_F_touched_15 (by decide) rfl ?_
    refine V.istore C (n := 18) (lv' := [(0, .ref (o 0)), (1, .int (nI f)), (2, .int (iI (Y))), (3, .int (nI 0)), (4, .int (nI 1))]) [1, 2, 3, 4, 0] d_F_touched_16 (by decide) rfl rfl ?_
    refine V.ind2 C (fun (j : Nat) (ac : Nat) => (FtW o (a 0) dr sp tx pr se ex) ++ (TabW a cI sd pd rk gp of to n)) (fun (j : Nat) (ac : Nat) => [(0, .ref (o 0)), (1, .int (nI f)), (2, .int (iI (Y))), (3, .int (nI ac)), (4, .int (nI (j + 1)))]) (fun (j : Nat) (ac : Nat) => (j ≤ 20) ∧ (ac = cntB (fun k => decide (sd f = k ∨ 0 < to (f * 21 + k))) j) ∧ (ac ≤ j) ∧ (nthB (fun k => decide (sd f = k ∨ 0 < to (f * 21 + k))) Y j = 0)) (fun (j : Nat) (ac : Nat) => 20 - j) (0) (0) ⟨by omega, rfl, by omega, rfl⟩ rfl rfl ?_
    rintro j ac ⟨hj, ha, hb, hz⟩ ih18
    try dsimp only
    refine V.iload C (n := 20) (j := 4) d_F_touched_18 rfl rfl ?_
    refine V.bipush C (v := nI 20) (n := 22) d_F_touched_20 (by decide) rfl ?_
    refine V.icmpn_gt C (tgt := 55) (n := 25) (by omega) (by omega) d_F_touched_22 (by decide) rfl (fun c22_2 => ?_) (fun c22_2 => ?_)
    · refine V.iconst C (v := nI 0) (n := 56) d_F_touched_55 (by decide) rfl ?_
      exact V.iret C hr d_F_touched_56 (by rw [show j = 20 by omega] at hz; rw [hz]) (rfl)
    · refine V.aload_n C (n := 26) (j := 0) d_F_touched_25 rfl rfl rfl ?_
      refine V.get C (n := 29) (q0 := 0) (k0 := 0) clOk_0 rfl (by decide) rfl fl_F_10 rfl d_F_touched_26 rfl ?_
      refine V.iload_n C (n := 30) (j := 1) d_F_touched_29 rfl rfl rfl ?_
      refine V.iload C (n := 32) (j := 4) d_F_touched_30 rfl rfl ?_
      refine V.callV_i C (n := 35) (ws' := (FtW o (a 0) dr sp tx pr se ex) ++ (TabW a cI sd pd rk gp of to n)) (c_T_touches l D cI cC E (a) (sd) (pd) (rk) (gp) (of) (to) (n) (f) (j + 1) (by first | assumption | omega) (by first | assumption | omega) (by first | assumption | omega)) cw_F_158 [1, 2, 3, 4, 5, 6, 7] [0] [0, 1, 2, 3, 4, 5, 6, 7] (qr := 0) rfl rfl rfl (of_decide_eq_true rfl) rfl (of_decide_eq_true rfl) rfl (of_decide_eq_true rfl) rfl (of_decide_eq_true rfl) rfl ⟨rfl, rfl⟩ ⟨by decide, by decide⟩ ⟨by decide, by decide⟩ rfl rfl (of_decide_eq_true rfl) d_F_touched_32 rfl ?_
      refine V.ifb_eq C (tgt := 49) (n := 38) d_F_touched_35 (by decide) rfl (fun c35_3 => ?_) (fun c35_3 => ?_)
      · refine V.iinc C (n := 52) (j := 4) (v := nI (j + 1 + 1)) (lv' := [(0, .ref (o 0)), (1, .int (nI f)), (2, .int (iI (Y))), (3, .int (nI ac)), (4, .int (nI (j + 1 + 1)))]) [1, 2, 3, 4, 0] d_F_touched_49 rfl (nI_inc (j + 1) 1) (by decide) rfl rfl ?_
        refine V.goto C (n := 18) d_F_touched_52 (by decide) ?_
        exact ih18 (j + 1) (ac) ⟨by omega, by first | (rw [ha]; exact (cntB_s1 (decide_eq_true (by omega))).symm) | (rw [ha]; exact (cntB_s0 (by simp only [decide_eq_true_eq]; omega)).symm), by omega, nthB_miss hz (by simp only [decide_eq_true_eq]; rw [← ha]; omega)⟩ (by omega)
      · refine V.iload_n C (n := 39) (j := 3) d_F_touched_38 rfl rfl rfl ?_
        refine V.iload_n C (n := 40) (j := 2) d_F_touched_39 rfl rfl rfl ?_
        refine V.icmp_ne C (tgt := 46) (n := 43) (nT (by omega)) (iI_toInt (by omega) (by omega)) d_F_touched_40 (by decide) rfl (fun c40_4 => ?_) (fun c40_4 => ?_)
        · refine V.iinc C (n := 49) (j := 3) (v := nI (ac + 1)) (lv' := [(0, .ref (o 0)), (1, .int (nI f)), (2, .int (iI (Y))), (3, .int (nI (ac + 1))), (4, .int (nI (j + 1)))]) [1, 2, 3, 0, 4] d_F_touched_46 rfl (nI_inc (ac) 1) (by decide) rfl rfl ?_
          refine V.iinc C (n := 52) (j := 4) (v := nI (j + 1 + 1)) (lv' := [(0, .ref (o 0)), (1, .int (nI f)), (2, .int (iI (Y))), (3, .int (nI (ac + 1))), (4, .int (nI (j + 1 + 1)))]) [1, 2, 3, 4, 0] d_F_touched_49 rfl (nI_inc (j + 1) 1) (by decide) rfl rfl ?_
          refine V.goto C (n := 18) d_F_touched_52 (by decide) ?_
          exact ih18 (j + 1) (ac + 1) ⟨by omega, by first | (rw [ha]; exact (cntB_s1 (decide_eq_true (by omega))).symm) | (rw [ha]; exact (cntB_s0 (by simp only [decide_eq_true_eq]; omega)).symm), by omega, nthB_miss hz (by simp only [decide_eq_true_eq]; rw [← ha]; omega)⟩ (by omega)
        · refine V.iload C (n := 45) (j := 4) d_F_touched_43 rfl rfl ?_
          exact V.iret C hr d_F_touched_45 (by rw [nthB_hit (j := j) (by omega) hz (decide_eq_true (by omega)) (by rw [← ha]; omega)]) (rfl)
  · exfalso; omega
end
section
/-! Search: the ticks of a frame, and how many begin there -/
def addH (st off : Nat) (bg : Nat → Nat) (m : Nat) : Nat → Nat := fun u => if u < 420 ∧ u < m ∧ off ≤ u ∧ (u - off) % st = 0 then bg u + 1 else bg u
def subH (st off : Nat) (bg : Nat → Nat) (m : Nat) : Nat → Nat := fun u => if u < 420 ∧ u < m ∧ off ≤ u ∧ (u - off) % st = 0 then bg u - 1 else bg u
def mxH (bg : Nat → Nat) (st off : Nat) : Nat → Nat
  | 0 => 0
  | m + 1 => if m < 420 ∧ off ≤ m ∧ (m - off) % st = 0 then max (mxH bg st off m) (bg m + 1) else mxH bg st off m
theorem hit_lt {st off k t : Nat} (hs : 1 ≤ st) (h1 : off ≤ t) (h2 : (t - off) % st = 0) (h3 : t < off + k * st + st) : t < off + k * st ∨ t = off + k * st := by
  obtain ⟨q, hq⟩ := Nat.dvd_of_mod_eq_zero h2
  have e1 : st * q < st * (k + 1) := by rw [← hq, Nat.mul_succ, Nat.mul_comm st k]; omega
  have e2 : q < k + 1 := Nat.lt_of_mul_lt_mul_left e1
  by_cases e : q = k
  · subst e
    rw [Nat.mul_comm] at hq
    exact Or.inr (by omega)
  · have e3 := Nat.mul_le_mul_left st (show q + 1 ≤ k by omega)
    rw [Nat.mul_succ, Nat.mul_comm st k] at e3
    exact Or.inl (by omega)
theorem hit_at {st off k : Nat} : off ≤ off + k * st ∧ (off + k * st - off) % st = 0 := by
  rw [Nat.add_sub_cancel_left, Nat.mul_mod_left]
  exact ⟨Nat.le_add_right _ _, rfl⟩
theorem hit_step {st off u t : Nat} (hs : 1 ≤ st) (hk : ∃ k, t = off + k * st) (h4 : t < 420) : (u < 420 ∧ u < t + st ∧ off ≤ u ∧ (u - off) % st = 0) ↔ (u = t ∨ (u < 420 ∧ u < t ∧ off ≤ u ∧ (u - off) % st = 0)) := by
  obtain ⟨k, rfl⟩ := hk
  constructor
  · rintro ⟨h0, h1, h2, h3⟩
    rcases hit_lt hs h2 h3 h1 with h | h
    · exact Or.inr ⟨h0, h, h2, h3⟩
    · exact Or.inl h
  · rintro (h | ⟨h0, h1, h2, h3⟩)
    · subst h
      exact ⟨h4, by omega, hit_at.1, hit_at.2⟩
    · exact ⟨h0, by omega, h2, h3⟩
theorem addH_0 (st off : Nat) (bg : Nat → Nat) : addH st off bg off = bg := by
  funext u
  unfold addH
  rw [if_neg (by omega)]
theorem subH_0 (st off : Nat) (bg : Nat → Nat) : subH st off bg off = bg := by
  funext u
  unfold subH
  rw [if_neg (by omega)]
theorem addH_s {st off t : Nat} {bg : Nat → Nat} (hs : 1 ≤ st) (hk : ∃ k, t = off + k * st) (h4 : t < 420) : updN (addH st off bg t) t (addH st off bg t t + 1) = addH st off bg (t + st) := by
  funext u
  unfold updN
  by_cases h : u = t
  · subst h
    rw [if_pos rfl]
    unfold addH
    rw [if_neg (by omega), if_pos ((hit_step hs hk h4).mpr (Or.inl rfl))]
  · rw [if_neg h]
    unfold addH
    by_cases q : u < 420 ∧ u < t ∧ off ≤ u ∧ (u - off) % st = 0
    · rw [if_pos q, if_pos ((hit_step hs hk h4).mpr (Or.inr q))]
    · rw [if_neg q, if_neg (fun z => by rcases (hit_step hs hk h4).mp z with z | z; exact h z; exact q z)]
theorem subH_s {st off t : Nat} {bg : Nat → Nat} (hs : 1 ≤ st) (hk : ∃ k, t = off + k * st) (h4 : t < 420) : updN (subH st off bg t) t (subH st off bg t t - 1) = subH st off bg (t + st) := by
  funext u
  unfold updN
  by_cases h : u = t
  · subst h
    rw [if_pos rfl]
    unfold subH
    rw [if_neg (by omega), if_pos ((hit_step hs hk h4).mpr (Or.inl rfl))]
  · rw [if_neg h]
    unfold subH
    by_cases q : u < 420 ∧ u < t ∧ off ≤ u ∧ (u - off) % st = 0
    · rw [if_pos q, if_pos ((hit_step hs hk h4).mpr (Or.inr q))]
    · rw [if_neg q, if_neg (fun z => by rcases (hit_step hs hk h4).mp z with z | z; exact h z; exact q z)]
theorem addH_big {st off m : Nat} {bg : Nat → Nat} (h : 420 ≤ m) : addH st off bg m = addH st off bg 420 := by
  funext u
  unfold addH
  by_cases q : u < 420 ∧ u < 420 ∧ off ≤ u ∧ (u - off) % st = 0
  · rw [if_pos q, if_pos ⟨q.1, by omega, q.2.2⟩]
  · rw [if_neg q, if_neg (fun z => q ⟨z.1, z.1, z.2.2⟩)]
theorem subH_big {st off m : Nat} {bg : Nat → Nat} (h : 420 ≤ m) : subH st off bg m = subH st off bg 420 := by
  funext u
  unfold subH
  by_cases q : u < 420 ∧ u < 420 ∧ off ≤ u ∧ (u - off) % st = 0
  · rw [if_pos q, if_pos ⟨q.1, by omega, q.2.2⟩]
  · rw [if_neg q, if_neg (fun z => q ⟨z.1, z.1, z.2.2⟩)]
theorem addH_le {st off m B : Nat} {bg : Nat → Nat} (h : ∀ u, bg u ≤ B) : ∀ u, addH st off bg m u ≤ B + 1 := by
  intro u
  have := h u
  unfold addH
  split <;> omega
theorem subH_le {st off m B : Nat} {bg : Nat → Nat} (h : ∀ u, bg u ≤ B) : ∀ u, subH st off bg m u ≤ B := by
  intro u
  have := h u
  unfold subH
  split <;> omega
theorem mxH_0 {bg : Nat → Nat} {st off m : Nat} (h : m ≤ off) : mxH bg st off m = 0 := by
  induction m with
  | zero => rfl
  | succ m ih => rw [mxH, if_neg (by omega)]; exact ih (by omega)
theorem mxH_big {bg : Nat → Nat} {st off m : Nat} (h : 420 ≤ m) : mxH bg st off m = mxH bg st off 420 := by
  induction m with
  | zero => omega
  | succ m ih =>
    by_cases e : 420 = m + 1
    · rw [← e]
    · rw [mxH, if_neg (by omega)]; exact ih (by omega)
theorem mxH_le {bg : Nat → Nat} {st off B : Nat} (h : ∀ u, bg u ≤ B) (m : Nat) : mxH bg st off m ≤ B + 1 := by
  induction m with
  | zero => exact Nat.zero_le _
  | succ m ih =>
    have := h m
    rw [mxH]
    split <;> omega
theorem mxH_skip {bg : Nat → Nat} {st off k d : Nat} (hs : 1 ≤ st) (hd : d < st) : mxH bg st off (off + k * st + 1 + d) = mxH bg st off (off + k * st + 1) := by
  induction d with
  | zero => rfl
  | succ d ih =>
    rw [show off + k * st + 1 + (d + 1) = (off + k * st + 1 + d) + 1 by omega, mxH, if_neg ?_]
    · exact ih (by omega)
    · rintro ⟨h0, h1, h2⟩
      rcases hit_lt hs h1 h2 (k := k) (by omega) with h | h <;> omega
theorem mxH_s {bg : Nat → Nat} {st off t : Nat} (hs : 1 ≤ st) (hk : ∃ k, t = off + k * st) (h4 : t < 420) : mxH bg st off (t + st) = max (mxH bg st off t) (bg t + 1) := by
  obtain ⟨k, rfl⟩ := hk
  have e := mxH_skip (bg := bg) (off := off) (k := k) hs (show st - 1 < st by omega)
  rw [show off + k * st + 1 + (st - 1) = off + k * st + st by omega] at e
  rw [e, mxH, if_pos ⟨h4, hit_at.1, hit_at.2⟩]
def SeaB (sr bg : Nat → Nat) : Prop := (∀ j, sr j ≤ 60) ∧ ∀ j, bg j ≤ 100000
/-- what comes before a frame in its kind -/
def befP (rk : Nat → Nat) (f : Nat) : Nat → Bool := fun k => decide (rk k / 25 = rk f / 25 ∧ (rk k < rk f ∨ (rk k = rk f ∧ k < f)))
def idOf (rk fi la : Nat → Nat) (n f : Nat) : Int := if fi (rk f / 25) + cntB (befP rk f) n ≤ la (rk f / 25) then ((fi (rk f / 25) + cntB (befP rk f) n : Nat) : Int) else -1
theorem idOf_rng {sd pd rk gp of to fi la : Nat → Nat} {n : Nat} (hT : TabOK sd pd rk gp of to n) (hS : SpnOK fi la) (f : Nat) : -1 ≤ idOf rk fi la n f ∧ idOf rk fi la n f ≤ 2047 := by
  have h := hS.2 (rk f / 25)
  unfold idOf
  split <;> omega
def metP (fi la : Nat → Nat) (k x y : Nat) : Nat → Bool := fun i => decide (i - 1 ≠ k ∧ x ≤ la (i - 1) ∧ fi (i - 1) ≤ y)
/-- the four rules -/
def brk (sd pd rk to fi la : Nat → Nat) (n : Nat) : Nat → Nat → Bool
  | 1, f => decide (idOf rk fi la n f = -1)
  | 2, f => decide (cntB (fun k => decide (0 < to (f * 21 + k))) 20 = 0)
  | 3, f => anyB (fun k => decide (0 < to (f * 21 + k) ∧ to (f * 21 + k) < pd f)) 20
  | 4, f => anyB (fun k => decide (sd k = sd f ∧ pd k = pd f ∧ rk k = rk f)) (f - 1)
  | _, _ => false
/-- the first of 1 .. m, else 0 -/
def fstB (p : Nat → Bool) : Nat → Nat
  | 0 => 0
  | m + 1 => if fstB p m ≠ 0 then fstB p m else if p (m + 1) = true then m + 1 else 0
theorem fstB_miss {p : Nat → Bool} {j : Nat} (h : fstB p j = 0) (h2 : ¬ p (j + 1) = true) : fstB p (j + 1) = 0 := by
  rw [fstB, if_neg (by rw [h]; decide), if_neg h2]
theorem fstB_keep {p : Nat → Bool} {k m : Nat} (h : k ≤ m) (hk : fstB p k ≠ 0) : fstB p m = fstB p k := by
  induction m with
  | zero => rw [show k = 0 by omega]
  | succ m ih =>
    by_cases e : k = m + 1
    · rw [e]
    · have i := ih (by omega)
      rw [fstB, if_pos (by rw [i]; exact hk), i]
theorem fstB_hit {p : Nat → Bool} {j m : Nat} (hm : j + 1 ≤ m) (h : fstB p j = 0) (h1 : p (j + 1) = true) : fstB p m = j + 1 := by
  have e : fstB p (j + 1) = j + 1 := by rw [fstB, if_neg (by rw [h]; decide), if_pos h1]
  rw [fstB_keep hm (by rw [e]; omega), e]
def chk (B : Nat → Nat → Bool) (n : Nat) : Nat := if fstB (B 1) n ≠ 0 then 1000 + fstB (B 1) n else if fstB (B 2) n ≠ 0 then 2000 + fstB (B 2) n else if fstB (B 3) n ≠ 0 then 3000 + fstB (B 3) n else if fstB (B 4) n ≠ 0 then 4000 + fstB (B 4) n else 0
end
section
set_option maxHeartbeats 4000000 in
set_option maxRecDepth 100000 in
theorem c_Q_isOver (l : Launch) (D : va_G) (cI cC : ClassId) (E : Nat → Nat) (z : Nat → Nat) (fr sr nx pb br bg : Nat → Nat) (ps : Nat) (pl : Int) (bp : Nat) (hpl : -1 ≤ pl ∧ pl ≤ 40) : CI l D (TY cI cC E) m_Q_isOver (rmD 0) [.ref (z 0)] ((SeaW z cI fr sr nx pb br bg ps pl bp)) (bI (pl < 0)) ((SeaW z cI fr sr nx pb br bg ps pl bp)) := by
  refine CI.of (by decide +kernel) (of_decide_eq_true rfl) ?_
  intro p e s m args below meth c C hr
  refine V.aload_n C (n := 1) (j := 0) d_Q_isOver_0 rfl rfl rfl ?_
  refine V.get C (n := 4) (q0 := 0) (k0 := 7) clOk_5 rfl (by decide) rfl fl_Q_34 rfl d_Q_isOver_1 rfl ?_
  refine V.if_ge C (tgt := 11) (n := 7) (iI_toInt (by omega) (by omega)) d_Q_isOver_4 (by decide) rfl (fun c4_1 => ?_) (fun c4_1 => ?_)
  · refine V.iconst C (v := nI 0) (n := 12) d_Q_isOver_11 (by decide) rfl ?_
    exact V.zret C hr (bI_nar _) d_Q_isOver_12 (by first | exact bI_1 (by omega) | exact bI_0 (by omega)) (rfl)
  · refine V.iconst C (v := nI 1) (n := 8) d_Q_isOver_7 (by decide) rfl ?_
    refine V.goto C (n := 12) d_Q_isOver_8 (by decide) ?_
    exact V.zret C hr (bI_nar _) d_Q_isOver_12 (by first | exact bI_1 (by omega) | exact bI_0 (by omega)) (rfl)
set_option maxHeartbeats 4000000 in
set_option maxRecDepth 100000 in
theorem c_Q_mostBeginsWith (l : Launch) (D : va_G) (cI cC : ClassId) (E : Nat → Nat) (z : Nat → Nat) (fr sr nx pb br bg : Nat → Nat) (ps : Nat) (pl : Int) (bp : Nat) (i off : Nat) (hB : SeaB sr bg) (hi : i < 40) (ho : off ≤ 60) : CI l D (TY cI cC E) m_Q_mostBeginsWith (rmD 1) [.ref (z 0), .int (nI i), .int (nI off)] ((SeaW z cI fr sr nx pb br bg ps pl bp)) (nI (mxH bg (max 1 (sr i)) off 420)) ((SeaW z cI fr sr nx pb br bg ps pl bp)) := by
  obtain ⟨hsr, hbg⟩ := id hB
  refine CI.of (by decide +kernel) (of_decide_eq_true rfl) ?_
  intro p e s m args below meth c C hr
  refine V.iconst C (v := nI 1) (n := 1) d_Q_mostBeginsWith_0 (by decide) rfl ?_
  refine V.aload_n C (n := 2) (j := 0) d_Q_mostBeginsWith_1 rfl rfl rfl ?_
  refine V.get C (n := 5) (q0 := 0) (k0 := 1) clOk_5 rfl (by decide) rfl fl_Q_15 rfl d_Q_mostBeginsWith_2 rfl ?_
  refine V.iload_n C (n := 6) (j := 1) d_Q_mostBeginsWith_5 rfl rfl rfl ?_
  refine V.iaload_n C (n := 7) (q0 := 2) (t0 := 0) (i := i) rfl rfl (by omega) (by decide) d_Q_mostBeginsWith_6 rfl ?_
  have b_1 := hsr (i)
  refine V.max_n C (n := 10) mm_Q (of_decide_eq_true rfl) (of_decide_eq_true rfl) ⟨Nat.le_refl _, Nat.le_refl _⟩ (by omega) (by omega) d_Q_mostBeginsWith_7 rfl ?_
  refine V.istore_n C (n := 11) (lv' := [(0, .ref (z 0)), (1, .int (nI i)), (2, .int (nI off)), (3, .int (nI (max (1) (sr i))))]) [1, 2, 3, 0] d_Q_mostBeginsWith_10 rfl (by decide) rfl rfl ?_
  refine V.iconst C (v := nI 0) (n := 12) d_Q_mostBeginsWith_11 (by decide) rfl ?_
  refine V.istore C (n := 14) (lv' := [(0, .ref (z 0)), (1, .int (nI i)), (2, .int (nI off)), (3, .int (nI (max (1) (sr i)))), (4, .int (nI 0))]) [1, 2, 3, 4, 0] d_Q_mostBeginsWith_12 (by decide) rfl rfl ?_
  refine V.iload_n C (n := 15) (j := 2) d_Q_mostBeginsWith_14 rfl rfl rfl ?_
  refine V.istore C (n := 17) (lv' := [(0, .ref (z 0)), (1, .int (nI i)), (2, .int (nI off)), (3, .int (nI (max (1) (sr i)))), (4, .int (nI 0)), (5, .int (nI off))]) [1, 2, 3, 4, 5, 0] d_Q_mostBeginsWith_15 (by decide) rfl rfl ?_
  refine V.ind2 C (fun (t : Nat) (pk : Nat) => (SeaW z cI fr sr nx pb br bg ps pl bp)) (fun (t : Nat) (pk : Nat) => [(0, .ref (z 0)), (1, .int (nI i)), (2, .int (nI off)), (3, .int (nI (max (1) (sr i)))), (4, .int (nI pk)), (5, .int (nI t))]) (fun (t : Nat) (pk : Nat) => (t ≤ 480) ∧ (∃ k, t = off + k * (max 1 (sr i))) ∧ (pk = mxH bg (max 1 (sr i)) off t) ∧ (pk ≤ 100001)) (fun (t : Nat) (pk : Nat) => 480 - t) (off) (0) ⟨by omega, ⟨0, by omega⟩, (mxH_0 (Nat.le_refl _)).symm, by omega⟩ rfl rfl ?_
  rintro t pk ⟨ht, hk, hp, hpb⟩ ih17
  try dsimp only
  refine V.iload C (n := 19) (j := 5) d_Q_mostBeginsWith_17 rfl rfl ?_
  refine V.sipush C (v := nI 420) (n := 22) d_Q_mostBeginsWith_19 (by decide) rfl ?_
  refine V.icmpn_ge C (tgt := 50) (n := 25) (by omega) (by omega) d_Q_mostBeginsWith_22 (by decide) rfl (fun c22_1 => ?_) (fun c22_1 => ?_)
  · refine V.iload C (n := 52) (j := 4) d_Q_mostBeginsWith_50 rfl rfl ?_
    exact V.iret C hr d_Q_mostBeginsWith_52 (by rw [hp, mxH_big (by omega)]) (rfl)
  · refine V.iload C (n := 27) (j := 4) d_Q_mostBeginsWith_25 rfl rfl ?_
    refine V.aload_n C (n := 28) (j := 0) d_Q_mostBeginsWith_27 rfl rfl rfl ?_
    refine V.get C (n := 31) (q0 := 0) (k0 := 5) clOk_5 rfl (by decide) rfl fl_Q_27 rfl d_Q_mostBeginsWith_28 rfl ?_
    refine V.iload C (n := 33) (j := 5) d_Q_mostBeginsWith_31 rfl rfl ?_
    refine V.iaload_n C (n := 34) (q0 := 6) (t0 := 0) (i := t) rfl rfl (by omega) (by decide) d_Q_mostBeginsWith_33 rfl ?_
    have b_2 := hbg (t)
    refine V.iconst C (v := nI 1) (n := 35) d_Q_mostBeginsWith_34 (by decide) rfl ?_
    refine V.iadd_n C (n := 36) d_Q_mostBeginsWith_35 rfl ?_
    refine V.max_n C (n := 39) mm_Q (of_decide_eq_true rfl) (of_decide_eq_true rfl) ⟨Nat.le_refl _, Nat.le_refl _⟩ (by omega) (by omega) d_Q_mostBeginsWith_36 rfl ?_
    refine V.istore C (n := 41) (lv' := [(0, .ref (z 0)), (1, .int (nI i)), (2, .int (nI off)), (3, .int (nI (max (1) (sr i)))), (4, .int (nI (max (pk) ((bg t) + 1)))), (5, .int (nI t))]) [1, 2, 3, 4, 0, 5] d_Q_mostBeginsWith_39 (by decide) rfl rfl ?_
    refine V.iload C (n := 43) (j := 5) d_Q_mostBeginsWith_41 rfl rfl ?_
    refine V.iload_n C (n := 44) (j := 3) d_Q_mostBeginsWith_43 rfl rfl rfl ?_
    refine V.iadd_n C (n := 45) d_Q_mostBeginsWith_44 rfl ?_
    refine V.istore C (n := 47) (lv' := [(0, .ref (z 0)), (1, .int (nI i)), (2, .int (nI off)), (3, .int (nI (max (1) (sr i)))), (4, .int (nI (max (pk) ((bg t) + 1)))), (5, .int (nI (t + (max (1) (sr i)))))]) [1, 2, 3, 4, 5, 0] d_Q_mostBeginsWith_45 (by decide) rfl rfl ?_
    refine V.goto C (n := 17) d_Q_mostBeginsWith_47 (by decide) ?_
    exact ih17 (t + (max (1) (sr i))) (max (pk) ((bg t) + 1)) ⟨by omega, by obtain ⟨k, hk⟩ := hk; exact ⟨k + 1, by rw [hk, Nat.succ_mul]; omega⟩, by rw [hp]; exact (mxH_s (by omega) hk (by omega)).symm, by omega⟩ (by omega)
set_option maxHeartbeats 4000000 in
set_option maxRecDepth 100000 in
theorem c_Q_addBegins_up (l : Launch) (D : va_G) (cI cC : ClassId) (E : Nat → Nat) (z : Nat → Nat) (fr sr nx pb br bg : Nat → Nat) (ps : Nat) (pl : Int) (bp : Nat) (i off : Nat) (hB : SeaB sr bg) (hi : i < 40) (ho : off ≤ 60) : CV l D (TY cI cC E) m_Q_addBegins (rmD 1) [.ref (z 0), .int (nI i), .int (nI off), .int (nI 1)] (SeaW z cI fr sr nx pb br bg ps pl bp) (SeaW z cI fr sr nx pb br (addH (max 1 (sr i)) off bg 420) ps pl bp) := by
  obtain ⟨hsr, hbg⟩ := id hB
  refine CN.of (by decide +kernel) (of_decide_eq_true rfl) ?_
  intro p e s m args below meth c C hr hin
  refine V.iconst C (v := nI 1) (n := 1) d_Q_addBegins_0 (by decide) rfl ?_
  refine V.aload_n C (n := 2) (j := 0) d_Q_addBegins_1 rfl rfl rfl ?_
  refine V.get C (n := 5) (q0 := 0) (k0 := 1) clOk_5 rfl (by decide) rfl fl_Q_15 rfl d_Q_addBegins_2 rfl ?_
  refine V.iload_n C (n := 6) (j := 1) d_Q_addBegins_5 rfl rfl rfl ?_
  refine V.iaload_n C (n := 7) (q0 := 2) (t0 := 0) (i := i) rfl rfl (by omega) (by decide) d_Q_addBegins_6 rfl ?_
  have b_1 := hsr (i)
  refine V.max_n C (n := 10) mm_Q (of_decide_eq_true rfl) (of_decide_eq_true rfl) ⟨Nat.le_refl _, Nat.le_refl _⟩ (by omega) (by omega) d_Q_addBegins_7 rfl ?_
  refine V.istore C (n := 12) (lv' := [(0, .ref (z 0)), (1, .int (nI i)), (2, .int (nI off)), (3, .int (nI 1)), (4, .int (nI (max (1) (sr i))))]) [1, 2, 3, 4, 0] d_Q_addBegins_10 (by decide) rfl rfl ?_
  refine V.iload_n C (n := 13) (j := 2) d_Q_addBegins_12 rfl rfl rfl ?_
  refine V.istore C (n := 15) (lv' := [(0, .ref (z 0)), (1, .int (nI i)), (2, .int (nI off)), (3, .int (nI 1)), (4, .int (nI (max (1) (sr i)))), (5, .int (nI off))]) [1, 2, 3, 4, 5, 0] d_Q_addBegins_13 (by decide) rfl rfl ?_
  refine V.ind2 C (fun (t : Nat) (b : Nat → Nat) => (SeaW z cI fr sr nx pb br b ps pl bp)) (fun (t : Nat) (b : Nat → Nat) => [(0, .ref (z 0)), (1, .int (nI i)), (2, .int (nI off)), (3, .int (nI 1)), (4, .int (nI (max (1) (sr i)))), (5, .int (nI t))]) (fun (t : Nat) (b : Nat → Nat) => (t ≤ 480) ∧ (∃ k, t = off + k * (max 1 (sr i))) ∧ (b = addH (max 1 (sr i)) off bg t)) (fun (t : Nat) (b : Nat → Nat) => 480 - t) (off) (bg) ⟨by omega, ⟨0, by omega⟩, (addH_0 _ _ _).symm⟩ rfl rfl ?_
  rintro t b ⟨ht, hk, hp⟩ ih15
  try dsimp only
  refine V.iload C (n := 17) (j := 5) d_Q_addBegins_15 rfl rfl ?_
  refine V.sipush C (v := nI 420) (n := 20) d_Q_addBegins_17 (by decide) rfl ?_
  refine V.icmpn_ge C (tgt := 44) (n := 23) (by omega) (by omega) d_Q_addBegins_20 (by decide) rfl (fun c20_1 => ?_) (fun c20_1 => ?_)
  · exact V.vret C hr d_Q_addBegins_44 () (trivial) (by rw [hp, addH_big (by omega)])
  · refine V.aload_n C (n := 24) (j := 0) d_Q_addBegins_23 rfl rfl rfl ?_
    refine V.get C (n := 27) (q0 := 0) (k0 := 5) clOk_5 rfl (by decide) rfl fl_Q_27 rfl d_Q_addBegins_24 rfl ?_
    refine V.iload C (n := 29) (j := 5) d_Q_addBegins_27 rfl rfl ?_
    refine V.dup2 C (n := 30) d_Q_addBegins_29 rfl rfl rfl ?_
    refine V.iaload_n C (n := 31) (q0 := 6) (t0 := 0) (i := t) rfl rfl (by omega) (by decide) d_Q_addBegins_30 rfl ?_
    have b_2 := True.intro
    refine V.iload_n C (n := 32) (j := 3) d_Q_addBegins_31 rfl rfl rfl ?_
    refine V.iadd_n C (n := 33) d_Q_addBegins_32 rfl ?_
    refine V.iastore_n C (n := 34) (q0 := 6) (t0 := 0) (i := t) (ws' := (SeaW z cI fr sr nx pb br (updN b t ((b t) + 1)) ps pl bp)) rfl rfl (by omega) (by decide) rfl d_Q_addBegins_33 rfl ?_
    refine V.iload C (n := 36) (j := 5) d_Q_addBegins_34 rfl rfl ?_
    refine V.iload C (n := 38) (j := 4) d_Q_addBegins_36 rfl rfl ?_
    refine V.iadd_n C (n := 39) d_Q_addBegins_38 rfl ?_
    refine V.istore C (n := 41) (lv' := [(0, .ref (z 0)), (1, .int (nI i)), (2, .int (nI off)), (3, .int (nI 1)), (4, .int (nI (max (1) (sr i)))), (5, .int (nI (t + (max (1) (sr i)))))]) [1, 2, 3, 4, 5, 0] d_Q_addBegins_39 (by decide) rfl rfl ?_
    refine V.goto C (n := 15) d_Q_addBegins_41 (by decide) ?_
    exact ih15 (t + (max (1) (sr i))) (updN b t ((b t) + 1)) ⟨by omega, by obtain ⟨k, hk⟩ := hk; exact ⟨k + 1, by rw [hk, Nat.succ_mul]; omega⟩, by rw [hp]; exact addH_s (by omega) hk (by omega)⟩ (by omega)
set_option maxHeartbeats 4000000 in
set_option maxRecDepth 100000 in
theorem c_F_identifierOf (l : Launch) (D : va_G) (cI cC : ClassId) (E : Nat → Nat) (o a q : Nat → Nat) (dr tx pr se : Nat) (ex : Bool) (sd pd rk gp of to : Nat → Nat) (n : Nat) (fi la : Nat → Nat) (f : Nat) (hT : TabOK sd pd rk gp of to n) (hS0 : SpnOK fi la) (hf : f ≤ 40) : CI l D (TY cI cC E) m_F_identifierOf (rmD 3) [.ref (o 0), .int (nI f)] ((FtW o (a 0) dr (q 0) tx pr se ex) ++ (TabW a cI sd pd rk gp of to n) ++ (SpnW q cI fi la)) (iI (idOf rk fi la n f)) ((FtW o (a 0) dr (q 0) tx pr se ex) ++ (TabW a cI sd pd rk gp of to n) ++ (SpnW q cI fi la)) := by
  obtain ⟨hn, hsd, hpd, hrk, hgp, hof, hto⟩ := id hT
  obtain ⟨hfi, hla⟩ := id hS0
  refine CI.of (by decide +kernel) (of_decide_eq_true rfl) ?_
  intro p e s m args below meth c C hr
  refine V.aload_n C (n := 1) (j := 0) d_F_identifierOf_0 rfl rfl rfl ?_
  refine V.get C (n := 4) (q0 := 0) (k0 := 2) clOk_0 rfl (by decide) rfl fl_F_22 rfl d_F_identifierOf_1 rfl ?_
  refine V.aload_n C (n := 5) (j := 0) d_F_identifierOf_4 rfl rfl rfl ?_
  refine V.get C (n := 8) (q0 := 0) (k0 := 0) clOk_0 rfl (by decide) rfl fl_F_10 rfl d_F_identifierOf_5 rfl ?_
  refine V.iload_n C (n := 9) (j := 1) d_F_identifierOf_8 rfl rfl rfl ?_
  refine V.callV_i C (n := 12) (ws' := (FtW o (a 0) dr (q 0) tx pr se ex) ++ (TabW a cI sd pd rk gp of to n) ++ (SpnW q cI fi la)) (c_T_kindOf l D cI cC E (a) (sd) (pd) (rk) (gp) (of) (to) (n) (f) (by first | assumption | omega) (by first | assumption | omega)) cw_F_161 [1, 2, 3, 4, 5, 6, 7] [0, 8, 9, 10] [0, 4, 5, 6, 7, 8, 9, 10, 1, 2, 3] (qr := 0) rfl rfl rfl (of_decide_eq_true rfl) rfl (of_decide_eq_true rfl) rfl (of_decide_eq_true rfl) rfl (of_decide_eq_true rfl) rfl ⟨rfl, rfl⟩ ⟨by decide, by decide⟩ ⟨by decide, by decide⟩ rfl rfl (of_decide_eq_true rfl) d_F_identifierOf_9 rfl ?_
  have b_1 := hrk (f)
  refine V.aload_n C (n := 13) (j := 0) d_F_identifierOf_12 rfl rfl rfl ?_
  refine V.get C (n := 16) (q0 := 0) (k0 := 0) clOk_0 rfl (by decide) rfl fl_F_10 rfl d_F_identifierOf_13 rfl ?_
  refine V.iload_n C (n := 17) (j := 1) d_F_identifierOf_16 rfl rfl rfl ?_
  refine V.callV_i C (n := 20) (ws' := (FtW o (a 0) dr (q 0) tx pr se ex) ++ (TabW a cI sd pd rk gp of to n) ++ (SpnW q cI fi la)) (c_T_placeInKind l D cI cC E (a) (sd) (pd) (rk) (gp) (of) (to) (n) (f) (by first | assumption | omega) (by first | assumption | omega)) cw_F_164 [1, 2, 3, 4, 5, 6, 7] [0, 8, 9, 10] [0, 4, 5, 6, 7, 8, 9, 10, 1, 2, 3] (qr := 0) rfl rfl rfl (of_decide_eq_true rfl) rfl (of_decide_eq_true rfl) rfl (of_decide_eq_true rfl) rfl (of_decide_eq_true rfl) rfl ⟨rfl, rfl⟩ ⟨by decide, by decide⟩ ⟨by decide, by decide⟩ rfl rfl (of_decide_eq_true rfl) d_F_identifierOf_17 rfl ?_
  have hcl := cntB_le (befP rk f) n
  have hrf := hrk f
  refine V.callV_i C (n := 23) (ws' := (FtW o (a 0) dr (q 0) tx pr se ex) ++ (TabW a cI sd pd rk gp of to n) ++ (SpnW q cI fi la)) (c_S_identifierAt l D cI cC E (q) (fi) (la) (rk f / 25) (cntB (fun k => decide (rk k / 25 = rk f / 25 ∧ (rk k < rk f ∨ (rk k = rk f ∧ k < f)))) n) (by first | assumption | omega) (by omega) (by show cntB (befP rk f) n ≤ 100; omega)) cw_F_167 [8, 9, 10] [0, 1, 2, 3, 4, 5, 6, 7] [0, 1, 2, 3, 4, 5, 6, 7, 8, 9, 10] (qr := 0) rfl rfl rfl (of_decide_eq_true rfl) rfl (of_decide_eq_true rfl) rfl (of_decide_eq_true rfl) rfl (of_decide_eq_true rfl) rfl ⟨rfl, rfl⟩ ⟨by decide, by decide⟩ ⟨by decide, by decide⟩ rfl rfl (of_decide_eq_true rfl) d_F_identifierOf_20 rfl ?_
  exact V.iret C hr d_F_identifierOf_23 (rfl) (rfl)
set_option maxHeartbeats 4000000 in
set_option maxRecDepth 100000 in
theorem c_F_identifier_bad (l : Launch) (D : va_G) (cI cC : ClassId) (E : Nat → Nat) (o a q : Nat → Nat) (dr tx pr se : Nat) (ex : Bool) (sd pd rk gp of to : Nat → Nat) (n : Nat) (fi la : Nat → Nat) (X : Int) (hT : TabOK sd pd rk gp of to n) (hS0 : SpnOK fi la) (hX : -2147483648 ≤ X ∧ X < 2147483648) (hbad : ¬ (1 ≤ X ∧ X ≤ (n : Int))) : CI l D (TY cI cC E) m_F_identifier (rmD 4) [.ref (o 0), .int (iI (X))] ((FtW o (a 0) dr (q 0) tx pr se ex) ++ (TabW a cI sd pd rk gp of to n) ++ (SpnW q cI fi la)) (iI (-1)) ((FtW o (a 0) dr (q 0) tx pr se ex) ++ (TabW a cI sd pd rk gp of to n) ++ (SpnW q cI fi la)) := by
  obtain ⟨hn, hsd, hpd, hrk, hgp, hof, hto⟩ := id hT
  obtain ⟨hfi, hla⟩ := id hS0
  refine CI.of (by decide +kernel) (of_decide_eq_true rfl) ?_
  intro p e s m args below meth c C hr
  refine V.aload_n C (n := 1) (j := 0) d_F_identifier_0 rfl rfl rfl ?_
  refine V.get C (n := 4) (q0 := 0) (k0 := 0) clOk_0 rfl (by decide) rfl fl_F_10 rfl d_F_identifier_1 rfl ?_
  refine V.iload_n C (n := 5) (j := 1) d_F_identifier_4 rfl rfl rfl ?_
  refine V.callV_i C (n := 8) (ws' := (FtW o (a 0) dr (q 0) tx pr se ex) ++ (TabW a cI sd pd rk gp of to n) ++ (SpnW q cI fi la)) (c_T_has l D cI cC E (a) (sd) (pd) (rk) (gp) (of) (to) (n) (X) (by first | assumption | omega) (by first | assumption | omega)) cw_F_71 [1, 2, 3, 4, 5, 6, 7] [0, 8, 9, 10] [0, 4, 5, 6, 7, 8, 9, 10, 1, 2, 3] (qr := 0) rfl rfl rfl (of_decide_eq_true rfl) rfl (of_decide_eq_true rfl) rfl (of_decide_eq_true rfl) rfl (of_decide_eq_true rfl) rfl ⟨rfl, rfl⟩ ⟨by decide, by decide⟩ ⟨by decide, by decide⟩ rfl rfl (of_decide_eq_true rfl) d_F_identifier_5 rfl ?_
  refine V.ifb_ne C (tgt := 13) (n := 11) d_F_identifier_8 (by decide) rfl (fun c8_1 => ?_) (fun c8_1 => ?_)
  · exfalso; omega
  · refine V.iconst C (v := iI (-1)) (n := 12) d_F_identifier_11 (by decide) rfl ?_
    exact V.iret C hr d_F_identifier_12 (rfl) (rfl)
set_option maxHeartbeats 4000000 in
set_option maxRecDepth 100000 in
theorem c_F_identifier_ok (l : Launch) (D : va_G) (cI cC : ClassId) (E : Nat → Nat) (o a q : Nat → Nat) (dr tx pr se : Nat) (ex : Bool) (sd pd rk gp of to : Nat → Nat) (n : Nat) (fi la : Nat → Nat) (f : Nat) (hT : TabOK sd pd rk gp of to n) (hS0 : SpnOK fi la) (hf : 1 ≤ f ∧ f ≤ n) : CI l D (TY cI cC E) m_F_identifier (rmD 4) [.ref (o 0), .int (nI f)] ((FtW o (a 0) dr (q 0) tx pr se ex) ++ (TabW a cI sd pd rk gp of to n) ++ (SpnW q cI fi la)) (iI (if idOf rk fi la n f = -1 then -4 else idOf rk fi la n f)) ((FtW o (a 0) dr (q 0) tx pr se ex) ++ (TabW a cI sd pd rk gp of to n) ++ (SpnW q cI fi la)) := by
  obtain ⟨hn, hsd, hpd, hrk, hgp, hof, hto⟩ := id hT
  obtain ⟨hfi, hla⟩ := id hS0
  refine CI.of (by decide +kernel) (of_decide_eq_true rfl) ?_
  intro p e s m args below meth c C hr
  refine V.aload_n C (n := 1) (j := 0) d_F_identifier_0 rfl rfl rfl ?_
  refine V.get C (n := 4) (q0 := 0) (k0 := 0) clOk_0 rfl (by decide) rfl fl_F_10 rfl d_F_identifier_1 rfl ?_
  refine V.iload_n C (n := 5) (j := 1) d_F_identifier_4 rfl rfl rfl ?_
  refine V.callV_i C (n := 8) (ws' := (FtW o (a 0) dr (q 0) tx pr se ex) ++ (TabW a cI sd pd rk gp of to n) ++ (SpnW q cI fi la)) (c_T_has l D cI cC E (a) (sd) (pd) (rk) (gp) (of) (to) (n) (((f : Nat) : Int)) (by first | assumption | omega) (by first | assumption | omega)) cw_F_71 [1, 2, 3, 4, 5, 6, 7] [0, 8, 9, 10] [0, 4, 5, 6, 7, 8, 9, 10, 1, 2, 3] (qr := 0) rfl rfl rfl (of_decide_eq_true rfl) rfl (of_decide_eq_true rfl) rfl (of_decide_eq_true rfl) rfl (of_decide_eq_true rfl) rfl ⟨rfl, rfl⟩ ⟨by decide, by decide⟩ ⟨by decide, by decide⟩ rfl (by first | rfl | (simp only [nI_iI]; done) | (simp only [nI_iI]; rfl)) (of_decide_eq_true rfl) d_F_identifier_5 rfl ?_
  refine V.ifb_ne C (tgt := 13) (n := 11) d_F_identifier_8 (by decide) rfl (fun c8_1 => ?_) (fun c8_1 => ?_)
  · refine V.aload_n C (n := 14) (j := 0) d_F_identifier_13 rfl rfl rfl ?_
    refine V.iload_n C (n := 15) (j := 1) d_F_identifier_14 rfl rfl rfl ?_
    refine V.callV_i C (n := 18) (ws' := (FtW o (a 0) dr (q 0) tx pr se ex) ++ (TabW a cI sd pd rk gp of to n) ++ (SpnW q cI fi la)) (c_F_identifierOf l D cI cC E (o) (a) (q) (dr) (tx) (pr) (se) (ex) (sd) (pd) (rk) (gp) (of) (to) (n) (fi) (la) (f) (by first | assumption | omega) (by first | assumption | omega) (by first | assumption | omega)) cw_F_85 [0, 1, 2, 3, 4, 5, 6, 7, 8, 9, 10] [] [0, 1, 2, 3, 4, 5, 6, 7, 8, 9, 10] (qr := 0) rfl rfl rfl (of_decide_eq_true rfl) rfl (of_decide_eq_true rfl) rfl (of_decide_eq_true rfl) rfl (of_decide_eq_true rfl) rfl ⟨rfl, rfl⟩ ⟨by decide, by decide⟩ ⟨by decide, by decide⟩ rfl rfl (of_decide_eq_true rfl) d_F_identifier_15 rfl ?_
    have hid := idOf_rng hT hS0 f
    refine V.istore_n C (n := 19) (lv' := [(0, .ref (o 0)), (1, .int (nI f)), (2, .int (iI (idOf rk fi la n f)))]) [1, 2, 0] d_F_identifier_18 rfl (by decide) rfl rfl ?_
    refine V.iload_n C (n := 20) (j := 2) d_F_identifier_19 rfl rfl rfl ?_
    refine V.iconst C (v := iI (-1)) (n := 21) d_F_identifier_20 (by decide) rfl ?_
    refine V.icmp_ne C (tgt := 29) (n := 24) (iI_toInt (by omega) (by omega)) (iI_toInt (by omega) (by omega)) d_F_identifier_21 (by decide) rfl (fun c21_2 => ?_) (fun c21_2 => ?_)
    · refine V.iload_n C (n := 30) (j := 2) d_F_identifier_29 rfl rfl rfl ?_
      exact V.iret C hr d_F_identifier_30 (by rw [if_neg (by omega)]) (rfl)
    · refine V.bipush C (v := iI (-4)) (n := 26) d_F_identifier_24 (by decide) rfl ?_
      refine V.goto C (n := 30) d_F_identifier_26 (by decide) ?_
      exact V.iret C hr d_F_identifier_30 (by rw [if_pos (by omega)]) (rfl)
  · exfalso; omega
set_option maxHeartbeats 4000000 in
set_option maxRecDepth 100000 in
theorem c_F_span_bad (l : Launch) (D : va_G) (cI cC : ClassId) (E : Nat → Nat) (o a q : Nat → Nat) (dr tx pr se : Nat) (ex : Bool) (sd pd rk gp of to : Nat → Nat) (n : Nat) (fi la : Nat → Nat) (X Y U : Int) (hT : TabOK sd pd rk gp of to n) (hS0 : SpnOK fi la) (hX : -2147483648 ≤ X ∧ X < 2147483648) (hY : -2147483648 ≤ Y ∧ Y < 2147483648) (hU : -2147483648 ≤ U ∧ U < 2147483648) (hbad : ¬ (0 ≤ X ∧ X < 4)) : CI l D (TY cI cC E) m_F_span (rmD 2) [.ref (o 0), .int (iI (X)), .int (iI (Y)), .int (iI (U))] ((FtW o (a 0) dr (q 0) tx pr se ex) ++ (TabW a cI sd pd rk gp of to n) ++ (SpnW q cI fi la)) (iI (-1)) ((FtW o (a 0) dr (q 0) tx pr se ex) ++ (TabW a cI sd pd rk gp of to n) ++ (SpnW q cI fi la)) := by
  obtain ⟨hn, hsd, hpd, hrk, hgp, hof, hto⟩ := id hT
  obtain ⟨hfi, hla⟩ := id hS0
  refine CI.of (by decide +kernel) (of_decide_eq_true rfl) ?_
  intro p e s m args below meth c C hr
  refine V.iload_n C (n := 1) (j := 1) d_F_span_0 rfl rfl rfl ?_
  refine V.if_lt C (tgt := 9) (n := 4) (iI_toInt (by omega) (by omega)) d_F_span_1 (by decide) rfl (fun c1_1 => ?_) (fun c1_1 => ?_)
  · refine V.iconst C (v := iI (-1)) (n := 10) d_F_span_9 (by decide) rfl ?_
    exact V.iret C hr d_F_span_10 (rfl) (rfl)
  · refine V.iload_n C (n := 5) (j := 1) d_F_span_4 rfl rfl rfl ?_
    refine V.iconst C (v := nI 4) (n := 6) d_F_span_5 (by decide) rfl ?_
    refine V.icmp_lt C (tgt := 11) (n := 9) (iI_toInt (by omega) (by omega)) (nT (by omega)) d_F_span_6 (by decide) rfl (fun c6_2 => ?_) (fun c6_2 => ?_)
    · exfalso; omega
    · refine V.iconst C (v := iI (-1)) (n := 10) d_F_span_9 (by decide) rfl ?_
      exact V.iret C hr d_F_span_10 (rfl) (rfl)
set_option maxHeartbeats 4000000 in
set_option maxRecDepth 100000 in
theorem c_F_span_out (l : Launch) (D : va_G) (cI cC : ClassId) (E : Nat → Nat) (o a q : Nat → Nat) (dr tx pr se : Nat) (ex : Bool) (sd pd rk gp of to : Nat → Nat) (n : Nat) (fi la : Nat → Nat) (X Y U : Int) (hT : TabOK sd pd rk gp of to n) (hS0 : SpnOK fi la) (hX : -2147483648 ≤ X ∧ X < 2147483648) (hY : -2147483648 ≤ Y ∧ Y < 2147483648) (hU : -2147483648 ≤ U ∧ U < 2147483648) (hok : 0 ≤ X ∧ X < 4) (hbad : ¬ (0 ≤ Y ∧ Y < 2048 ∧ 0 ≤ U ∧ U < 2048 ∧ Y ≤ U)) : CI l D (TY cI cC E) m_F_span (rmD 2) [.ref (o 0), .int (iI (X)), .int (iI (Y)), .int (iI (U))] ((FtW o (a 0) dr (q 0) tx pr se ex) ++ (TabW a cI sd pd rk gp of to n) ++ (SpnW q cI fi la)) (iI (-2)) ((FtW o (a 0) dr (q 0) tx pr se ex) ++ (TabW a cI sd pd rk gp of to n) ++ (SpnW q cI fi la)) := by
  obtain ⟨hn, hsd, hpd, hrk, hgp, hof, hto⟩ := id hT
  obtain ⟨hfi, hla⟩ := id hS0
  refine CI.of (by decide +kernel) (of_decide_eq_true rfl) ?_
  intro p e s m args below meth c C hr
  refine V.iload_n C (n := 1) (j := 1) d_F_span_0 rfl rfl rfl ?_
  refine V.if_lt C (tgt := 9) (n := 4) (iI_toInt (by omega) (by omega)) d_F_span_1 (by decide) rfl (fun c1_1 => ?_) (fun c1_1 => ?_)
  · exfalso; omega
  · refine V.iload_n C (n := 5) (j := 1) d_F_span_4 rfl rfl rfl ?_
    refine V.iconst C (v := nI 4) (n := 6) d_F_span_5 (by decide) rfl ?_
    refine V.icmp_lt C (tgt := 11) (n := 9) (iI_toInt (by omega) (by omega)) (nT (by omega)) d_F_span_6 (by decide) rfl (fun c6_2 => ?_) (fun c6_2 => ?_)
    · refine V.iload_n C (n := 12) (j := 2) d_F_span_11 rfl rfl rfl ?_
      refine V.callS_i C (n := 15) (ws' := (FtW o (a 0) dr (q 0) tx pr se ex) ++ (TabW a cI sd pd rk gp of to n) ++ (SpnW q cI fi la)) (c_F_isIdentifier l D cI cC E (Y) (by first | assumption | omega)) cw_F_88 [] [0, 1, 2, 3, 4, 5, 6, 7, 8, 9, 10] [0, 1, 2, 3, 4, 5, 6, 7, 8, 9, 10] rfl (of_decide_eq_true rfl) rfl (of_decide_eq_true rfl) rfl (of_decide_eq_true rfl) rfl (of_decide_eq_true rfl) rfl ⟨rfl, rfl⟩ ⟨by decide, by decide⟩ ⟨by decide, by decide⟩ rfl rfl (of_decide_eq_true rfl) d_F_span_12 rfl ?_
      refine V.ifb_eq C (tgt := 30) (n := 18) d_F_span_15 (by decide) rfl (fun c15_3 => ?_) (fun c15_3 => ?_)
      · refine V.bipush C (v := iI (-2)) (n := 32) d_F_span_30 (by decide) rfl ?_
        exact V.iret C hr d_F_span_32 (rfl) (rfl)
      · refine V.iload_n C (n := 19) (j := 3) d_F_span_18 rfl rfl rfl ?_
        refine V.callS_i C (n := 22) (ws' := (FtW o (a 0) dr (q 0) tx pr se ex) ++ (TabW a cI sd pd rk gp of to n) ++ (SpnW q cI fi la)) (c_F_isIdentifier l D cI cC E (U) (by first | assumption | omega)) cw_F_88 [] [0, 1, 2, 3, 4, 5, 6, 7, 8, 9, 10] [0, 1, 2, 3, 4, 5, 6, 7, 8, 9, 10] rfl (of_decide_eq_true rfl) rfl (of_decide_eq_true rfl) rfl (of_decide_eq_true rfl) rfl (of_decide_eq_true rfl) rfl ⟨rfl, rfl⟩ ⟨by decide, by decide⟩ ⟨by decide, by decide⟩ rfl rfl (of_decide_eq_true rfl) d_F_span_19 rfl ?_
        refine V.ifb_eq C (tgt := 30) (n := 25) d_F_span_22 (by decide) rfl (fun c22_4 => ?_) (fun c22_4 => ?_)
        · refine V.bipush C (v := iI (-2)) (n := 32) d_F_span_30 (by decide) rfl ?_
          exact V.iret C hr d_F_span_32 (rfl) (rfl)
        · refine V.iload_n C (n := 26) (j := 3) d_F_span_25 rfl rfl rfl ?_
          refine V.iload_n C (n := 27) (j := 2) d_F_span_26 rfl rfl rfl ?_
          refine V.icmp_ge C (tgt := 33) (n := 30) (iI_toInt (by omega) (by omega)) (iI_toInt (by omega) (by omega)) d_F_span_27 (by decide) rfl (fun c27_5 => ?_) (fun c27_5 => ?_)
          · exfalso; omega
          · refine V.bipush C (v := iI (-2)) (n := 32) d_F_span_30 (by decide) rfl ?_
            exact V.iret C hr d_F_span_32 (rfl) (rfl)
    · exfalso; omega
set_option maxHeartbeats 4000000 in
set_option maxRecDepth 100000 in
theorem c_F_span_met (l : Launch) (D : va_G) (cI cC : ClassId) (E : Nat → Nat) (o a q : Nat → Nat) (dr tx pr se : Nat) (ex : Bool) (sd pd rk gp of to : Nat → Nat) (n : Nat) (fi la : Nat → Nat) (k x y : Nat) (hT : TabOK sd pd rk gp of to n) (hS0 : SpnOK fi la) (hk : k < 4) (hx : x ≤ 2047) (hy : y ≤ 2047) (hxy : x ≤ y) (hm : anyB (fun i => decide (i - 1 ≠ k ∧ x ≤ la (i - 1) ∧ fi (i - 1) ≤ y)) 4 = true) : CI l D (TY cI cC E) m_F_span (rmD 2) [.ref (o 0), .int (nI k), .int (nI x), .int (nI y)] ((FtW o (a 0) dr (q 0) tx pr se ex) ++ (TabW a cI sd pd rk gp of to n) ++ (SpnW q cI fi la)) (iI (-3)) ((FtW o (a 0) dr (q 0) tx pr se ex) ++ (TabW a cI sd pd rk gp of to n) ++ (SpnW q cI fi la)) := by
  obtain ⟨hn, hsd, hpd, hrk, hgp, hof, hto⟩ := id hT
  obtain ⟨hfi, hla⟩ := id hS0
  refine CI.of (by decide +kernel) (of_decide_eq_true rfl) ?_
  intro p e s m args below meth c C hr
  refine V.iload_n C (n := 1) (j := 1) d_F_span_0 rfl rfl rfl ?_
  refine V.ifn_lt C (tgt := 9) (n := 4) (by omega) d_F_span_1 (by decide) rfl (fun c1_1 => ?_) (fun c1_1 => ?_)
  · exfalso; omega
  · refine V.iload_n C (n := 5) (j := 1) d_F_span_4 rfl rfl rfl ?_
    refine V.iconst C (v := nI 4) (n := 6) d_F_span_5 (by decide) rfl ?_
    refine V.icmpn_lt C (tgt := 11) (n := 9) (by omega) (by omega) d_F_span_6 (by decide) rfl (fun c6_2 => ?_) (fun c6_2 => ?_)
    · refine V.iload_n C (n := 12) (j := 2) d_F_span_11 rfl rfl rfl ?_
      refine V.callS_i C (n := 15) (ws' := (FtW o (a 0) dr (q 0) tx pr se ex) ++ (TabW a cI sd pd rk gp of to n) ++ (SpnW q cI fi la)) (c_F_isIdentifier l D cI cC E (((x : Nat) : Int)) (by first | assumption | omega)) cw_F_88 [] [0, 1, 2, 3, 4, 5, 6, 7, 8, 9, 10] [0, 1, 2, 3, 4, 5, 6, 7, 8, 9, 10] rfl (of_decide_eq_true rfl) rfl (of_decide_eq_true rfl) rfl (of_decide_eq_true rfl) rfl (of_decide_eq_true rfl) rfl ⟨rfl, rfl⟩ ⟨by decide, by decide⟩ ⟨by decide, by decide⟩ rfl (by first | rfl | (simp only [nI_iI]; done) | (simp only [nI_iI]; rfl)) (of_decide_eq_true rfl) d_F_span_12 rfl ?_
      refine V.ifb_eq C (tgt := 30) (n := 18) d_F_span_15 (by decide) rfl (fun c15_3 => ?_) (fun c15_3 => ?_)
      · exfalso; omega
      · refine V.iload_n C (n := 19) (j := 3) d_F_span_18 rfl rfl rfl ?_
        refine V.callS_i C (n := 22) (ws' := (FtW o (a 0) dr (q 0) tx pr se ex) ++ (TabW a cI sd pd rk gp of to n) ++ (SpnW q cI fi la)) (c_F_isIdentifier l D cI cC E (((y : Nat) : Int)) (by first | assumption | omega)) cw_F_88 [] [0, 1, 2, 3, 4, 5, 6, 7, 8, 9, 10] [0, 1, 2, 3, 4, 5, 6, 7, 8, 9, 10] rfl (of_decide_eq_true rfl) rfl (of_decide_eq_true rfl) rfl (of_decide_eq_true rfl) rfl (of_decide_eq_true rfl) rfl ⟨rfl, rfl⟩ ⟨by decide, by decide⟩ ⟨by decide, by decide⟩ rfl (by first | rfl | (simp only [nI_iI]; done) | (simp only [nI_iI]; rfl)) (of_decide_eq_true rfl) d_F_span_19 rfl ?_
        refine V.ifb_eq C (tgt := 30) (n := 25) d_F_span_22 (by decide) rfl (fun c22_4 => ?_) (fun c22_4 => ?_)
        · exfalso; omega
        · refine V.iload_n C (n := 26) (j := 3) d_F_span_25 rfl rfl rfl ?_
          refine V.iload_n C (n := 27) (j := 2) d_F_span_26 rfl rfl rfl ?_
          refine V.icmpn_ge C (tgt := 33) (n := 30) (by omega) (by omega) d_F_span_27 (by decide) rfl (fun c27_5 => ?_) (fun c27_5 => ?_)
          · refine V.aload_n C (n := 34) (j := 0) d_F_span_33 rfl rfl rfl ?_
            refine V.get C (n := 37) (q0 := 0) (k0 := 2) clOk_0 rfl (by decide) rfl fl_F_22 rfl d_F_span_34 rfl ?_
            refine V.iload_n C (n := 38) (j := 1) d_F_span_37 rfl rfl rfl ?_
            refine V.iload_n C (n := 39) (j := 2) d_F_span_38 rfl rfl rfl ?_
            refine V.iload_n C (n := 40) (j := 3) d_F_span_39 rfl rfl rfl ?_
            refine V.callV_i C (n := 43) (ws' := (FtW o (a 0) dr (q 0) tx pr se ex) ++ (TabW a cI sd pd rk gp of to n) ++ (SpnW q cI fi la)) (c_S_meetAnother l D cI cC E (q) (fi) (la) (k) (x) (y) (by first | assumption | omega) (by first | assumption | omega) (by first | assumption | omega) (by first | assumption | omega)) cw_F_91 [8, 9, 10] [0, 1, 2, 3, 4, 5, 6, 7] [0, 1, 2, 3, 4, 5, 6, 7, 8, 9, 10] (qr := 0) rfl rfl rfl (of_decide_eq_true rfl) rfl (of_decide_eq_true rfl) rfl (of_decide_eq_true rfl) rfl (of_decide_eq_true rfl) rfl ⟨rfl, rfl⟩ ⟨by decide, by decide⟩ ⟨by decide, by decide⟩ rfl rfl (of_decide_eq_true rfl) d_F_span_40 rfl ?_
            refine V.ifb_eq C (tgt := 49) (n := 46) d_F_span_43 (by decide) rfl (fun c43_6 => ?_) (fun c43_6 => ?_)
            · exact absurd hm c43_6
            · refine V.bipush C (v := iI (-3)) (n := 48) d_F_span_46 (by decide) rfl ?_
              exact V.iret C hr d_F_span_48 (rfl) (rfl)
          · exfalso; omega
    · exfalso; omega
set_option maxHeartbeats 4000000 in
set_option maxRecDepth 100000 in
theorem c_F_span_ok (l : Launch) (D : va_G) (cI cC : ClassId) (E : Nat → Nat) (o a q : Nat → Nat) (dr tx pr se : Nat) (ex : Bool) (sd pd rk gp of to : Nat → Nat) (n : Nat) (fi la : Nat → Nat) (k x y : Nat) (hT : TabOK sd pd rk gp of to n) (hS0 : SpnOK fi la) (hk : k < 4) (hx : x ≤ 2047) (hy : y ≤ 2047) (hxy : x ≤ y) (hm : ¬ anyB (fun i => decide (i - 1 ≠ k ∧ x ≤ la (i - 1) ∧ fi (i - 1) ≤ y)) 4 = true) : CI l D (TY cI cC E) m_F_span (rmD 2) [.ref (o 0), .int (nI k), .int (nI x), .int (nI y)] ((FtW o (a 0) dr (q 0) tx pr se ex) ++ (TabW a cI sd pd rk gp of to n) ++ (SpnW q cI fi la)) (nI (y - x + 1)) ((FtW o (a 0) dr (q 0) tx pr se ex) ++ (TabW a cI sd pd rk gp of to n) ++ (SpnW q cI (updN fi k x) (updN la k y))) := by
  obtain ⟨hn, hsd, hpd, hrk, hgp, hof, hto⟩ := id hT
  obtain ⟨hfi, hla⟩ := id hS0
  refine CI.of (by decide +kernel) (of_decide_eq_true rfl) ?_
  intro p e s m args below meth c C hr
  refine V.iload_n C (n := 1) (j := 1) d_F_span_0 rfl rfl rfl ?_
  refine V.ifn_lt C (tgt := 9) (n := 4) (by omega) d_F_span_1 (by decide) rfl (fun c1_1 => ?_) (fun c1_1 => ?_)
  · exfalso; omega
  · refine V.iload_n C (n := 5) (j := 1) d_F_span_4 rfl rfl rfl ?_
    refine V.iconst C (v := nI 4) (n := 6) d_F_span_5 (by decide) rfl ?_
    refine V.icmpn_lt C (tgt := 11) (n := 9) (by omega) (by omega) d_F_span_6 (by decide) rfl (fun c6_2 => ?_) (fun c6_2 => ?_)
    · refine V.iload_n C (n := 12) (j := 2) d_F_span_11 rfl rfl rfl ?_
      refine V.callS_i C (n := 15) (ws' := (FtW o (a 0) dr (q 0) tx pr se ex) ++ (TabW a cI sd pd rk gp of to n) ++ (SpnW q cI fi la)) (c_F_isIdentifier l D cI cC E (((x : Nat) : Int)) (by first | assumption | omega)) cw_F_88 [] [0, 1, 2, 3, 4, 5, 6, 7, 8, 9, 10] [0, 1, 2, 3, 4, 5, 6, 7, 8, 9, 10] rfl (of_decide_eq_true rfl) rfl (of_decide_eq_true rfl) rfl (of_decide_eq_true rfl) rfl (of_decide_eq_true rfl) rfl ⟨rfl, rfl⟩ ⟨by decide, by decide⟩ ⟨by decide, by decide⟩ rfl (by first | rfl | (simp only [nI_iI]; done) | (simp only [nI_iI]; rfl)) (of_decide_eq_true rfl) d_F_span_12 rfl ?_
      refine V.ifb_eq C (tgt := 30) (n := 18) d_F_span_15 (by decide) rfl (fun c15_3 => ?_) (fun c15_3 => ?_)
      · exfalso; omega
      · refine V.iload_n C (n := 19) (j := 3) d_F_span_18 rfl rfl rfl ?_
        refine V.callS_i C (n := 22) (ws' := (FtW o (a 0) dr (q 0) tx pr se ex) ++ (TabW a cI sd pd rk gp of to n) ++ (SpnW q cI fi la)) (c_F_isIdentifier l D cI cC E (((y : Nat) : Int)) (by first | assumption | omega)) cw_F_88 [] [0, 1, 2, 3, 4, 5, 6, 7, 8, 9, 10] [0, 1, 2, 3, 4, 5, 6, 7, 8, 9, 10] rfl (of_decide_eq_true rfl) rfl (of_decide_eq_true rfl) rfl (of_decide_eq_true rfl) rfl (of_decide_eq_true rfl) rfl ⟨rfl, rfl⟩ ⟨by decide, by decide⟩ ⟨by decide, by decide⟩ rfl (by first | rfl | (simp only [nI_iI]; done) | (simp only [nI_iI]; rfl)) (of_decide_eq_true rfl) d_F_span_19 rfl ?_
        refine V.ifb_eq C (tgt := 30) (n := 25) d_F_span_22 (by decide) rfl (fun c22_4 => ?_) (fun c22_4 => ?_)
        · exfalso; omega
        · refine V.iload_n C (n := 26) (j := 3) d_F_span_25 rfl rfl rfl ?_
          refine V.iload_n C (n := 27) (j := 2) d_F_span_26 rfl rfl rfl ?_
          refine V.icmpn_ge C (tgt := 33) (n := 30) (by omega) (by omega) d_F_span_27 (by decide) rfl (fun c27_5 => ?_) (fun c27_5 => ?_)
          · refine V.aload_n C (n := 34) (j := 0) d_F_span_33 rfl rfl rfl ?_
            refine V.get C (n := 37) (q0 := 0) (k0 := 2) clOk_0 rfl (by decide) rfl fl_F_22 rfl d_F_span_34 rfl ?_
            refine V.iload_n C (n := 38) (j := 1) d_F_span_37 rfl rfl rfl ?_
            refine V.iload_n C (n := 39) (j := 2) d_F_span_38 rfl rfl rfl ?_
            refine V.iload_n C (n := 40) (j := 3) d_F_span_39 rfl rfl rfl ?_
            refine V.callV_i C (n := 43) (ws' := (FtW o (a 0) dr (q 0) tx pr se ex) ++ (TabW a cI sd pd rk gp of to n) ++ (SpnW q cI fi la)) (c_S_meetAnother l D cI cC E (q) (fi) (la) (k) (x) (y) (by first | assumption | omega) (by first | assumption | omega) (by first | assumption | omega) (by first | assumption | omega)) cw_F_91 [8, 9, 10] [0, 1, 2, 3, 4, 5, 6, 7] [0, 1, 2, 3, 4, 5, 6, 7, 8, 9, 10] (qr := 0) rfl rfl rfl (of_decide_eq_true rfl) rfl (of_decide_eq_true rfl) rfl (of_decide_eq_true rfl) rfl (of_decide_eq_true rfl) rfl ⟨rfl, rfl⟩ ⟨by decide, by decide⟩ ⟨by decide, by decide⟩ rfl rfl (of_decide_eq_true rfl) d_F_span_40 rfl ?_
            refine V.ifb_eq C (tgt := 49) (n := 46) d_F_span_43 (by decide) rfl (fun c43_6 => ?_) (fun c43_6 => ?_)
            · refine V.aload_n C (n := 50) (j := 0) d_F_span_49 rfl rfl rfl ?_
              refine V.get C (n := 53) (q0 := 0) (k0 := 2) clOk_0 rfl (by decide) rfl fl_F_22 rfl d_F_span_50 rfl ?_
              refine V.iload_n C (n := 54) (j := 1) d_F_span_53 rfl rfl rfl ?_
              refine V.iload_n C (n := 55) (j := 2) d_F_span_54 rfl rfl rfl ?_
              refine V.iload_n C (n := 56) (j := 3) d_F_span_55 rfl rfl rfl ?_
              refine V.callV_v C (n := 59) (ws2 := fun _ => (FtW o (a 0) dr (q 0) tx pr se ex) ++ (TabW a cI sd pd rk gp of to n) ++ (SpnW q cI (updN fi k x) (updN la k y))) (c_S_set l D cI cC E (q) (fi) (la) (k) (x) (y) (by first | assumption | omega) (by first | assumption | omega) (by first | assumption | omega) (by first | assumption | omega)) cw_F_95 [8, 9, 10] [0, 1, 2, 3, 4, 5, 6, 7] [0, 1, 2, 3, 4, 5, 6, 7, 8, 9, 10] (qr := 0) rfl rfl rfl (of_decide_eq_true rfl) rfl (of_decide_eq_true rfl) rfl (of_decide_eq_true rfl) (fun _ => rfl) (fun _ => of_decide_eq_true rfl) rfl ⟨rfl, rfl⟩ ⟨by decide, by decide⟩ ⟨by decide, by decide⟩ rfl rfl (of_decide_eq_true rfl) d_F_span_56 rfl (fun _ _ => ?_)
              refine V.iload_n C (n := 60) (j := 3) d_F_span_59 rfl rfl rfl ?_
              refine V.iload_n C (n := 61) (j := 2) d_F_span_60 rfl rfl rfl ?_
              refine V.isub_n C (n := 62) d_F_span_61 (by omega) rfl ?_
              refine V.iconst C (v := nI 1) (n := 63) d_F_span_62 (by decide) rfl ?_
              refine V.iadd_n C (n := 64) d_F_span_63 rfl ?_
              exact V.iret C hr d_F_span_64 (rfl) (rfl)
            · exact absurd c43_6 hm
          · exfalso; omega
    · exfalso; omega
end
section
/-- how many begin at a tick, the first p places put to o -/
def BG (sr o : Nat → Nat) : Nat → Nat → Nat
  | 0 => fun _ => 0
  | p + 1 => addH (max 1 (sr p)) (o p) (BG sr o p) 420
theorem BG_le (sr o : Nat → Nat) (p : Nat) : ∀ u, BG sr o p u ≤ p := by
  induction p with
  | zero => intro u; exact Nat.le_refl 0
  | succ p ih => exact addH_le ih
theorem BG_c {sr sr' o o' : Nat → Nat} {p : Nat} (h1 : ∀ q, q < p → sr q = sr' q) (h : ∀ q, q < p → o q = o' q) : BG sr o p = BG sr' o' p := by
  induction p with
  | zero => rfl
  | succ p ih =>
    show addH (max 1 (sr p)) (o p) (BG sr o p) 420 = addH (max 1 (sr' p)) (o' p) (BG sr' o' p) 420
    rw [ih (fun q hq => h1 q (by omega)) (fun q hq => h q (by omega)), h1 p (by omega), h p (by omega)]
theorem subH_at (st off : Nat) (bg : Nat → Nat) (t : Nat) : subH st off bg t t = bg t := by
  unfold subH
  rw [if_neg (by omega)]
theorem addH_at {st off : Nat} {bg : Nat → Nat} {t : Nat} (hk : ∃ k, t = off + k * st) (h4 : t < 420) : 1 ≤ addH st off bg 420 t := by
  obtain ⟨k, rfl⟩ := hk
  unfold addH
  rw [if_pos ⟨h4, h4, hit_at.1, hit_at.2⟩]
  omega
theorem subadd (st off : Nat) (bg : Nat → Nat) : subH st off (addH st off bg 420) 420 = bg := by
  funext u
  unfold subH addH
  by_cases h : u < 420 ∧ u < 420 ∧ off ≤ u ∧ (u - off) % st = 0
  · rw [if_pos h, if_pos h]
    omega
  · rw [if_neg h, if_neg h]
def nx1 (nx : Nat → Nat) : Nat → Nat := fun q => nx q - 1
def SeaN (sr nx pb : Nat → Nat) (bp : Nat) : Prop := (∀ j, sr j ≤ 60) ∧ (∀ j, nx j ≤ 60) ∧ (∀ j, pb j ≤ 41) ∧ bp ≤ 41
/-- a whole row, kept -/
def keepR (nx br : Nat → Nat) (j : Nat) : Nat → Nat := fun i => if i < j then nx i - 1 else br i
theorem keepR_0 (nx br : Nat → Nat) : keepR nx br 0 = br := by
  funext i
  unfold keepR
  rw [if_neg (by omega)]
theorem keepR_s (nx br : Nat → Nat) (j : Nat) : updN (keepR nx br j) j (nx j - 1) = keepR nx br (j + 1) := by
  funext i
  unfold updN keepR
  by_cases h : i = j
  · subst h
    rw [if_pos rfl, if_pos (by omega)]
  · rw [if_neg h]
    by_cases q : i < j
    · rw [if_pos q, if_pos (by omega)]
    · rw [if_neg q, if_neg (by omega)]
/-- the place that is at hand when the closed ones are left; the argument is a place more 1 -/
def lvP (sr nx pb : Nat → Nat) (bp : Nat) : Nat → Int
  | 0 => -1
  | p + 1 => if sr p ≤ nx p ∨ bp ≤ pb p then lvP sr nx pb bp p else (p : Int)
theorem lvP_rng (sr nx pb : Nat → Nat) (bp p : Nat) : -1 ≤ lvP sr nx pb bp p ∧ lvP sr nx pb bp p < (p : Int) := by
  induction p with
  | zero => rw [lvP]; exact ⟨by decide, by decide⟩
  | succ p ih =>
    rw [lvP]
    split <;> omega
theorem lvP_t {sr nx pb : Nat → Nat} {bp p : Nat} (h : sr p ≤ nx p ∨ bp ≤ pb p) : lvP sr nx pb bp (p + 1) = lvP sr nx pb bp p := by rw [lvP, if_pos h]
theorem lvP_f {sr nx pb : Nat → Nat} {bp p : Nat} (h : ¬ (sr p ≤ nx p ∨ bp ≤ pb p)) : lvP sr nx pb bp (p + 1) = (p : Int) := by rw [lvP, if_neg h]
/-- which frames count -/
def cnts (p : Nat) : Bool := decide (0 < p ∧ 420 % p = 0)
def layS (pd fr sr : Nat → Nat) : Nat → (Nat → Nat) × (Nat → Nat) × Nat
  | 0 => (fr, sr, 0)
  | m + 1 => if cnts (pd (m + 1)) = true then (updN (layS pd fr sr m).1 (layS pd fr sr m).2.2 (m + 1), updN (layS pd fr sr m).2.1 (layS pd fr sr m).2.2 (pd (m + 1)), (layS pd fr sr m).2.2 + 1) else layS pd fr sr m
theorem layS_t {pd fr sr : Nat → Nat} {m : Nat} (h : 0 < pd (m + 1) ∧ 420 % pd (m + 1) = 0) : layS pd fr sr (m + 1) = (updN (layS pd fr sr m).1 (layS pd fr sr m).2.2 (m + 1), updN (layS pd fr sr m).2.1 (layS pd fr sr m).2.2 (pd (m + 1)), (layS pd fr sr m).2.2 + 1) := by rw [layS, if_pos (show cnts (pd (m + 1)) = true from decide_eq_true h)]
theorem layS_f {pd fr sr : Nat → Nat} {m : Nat} (h : ¬ (0 < pd (m + 1) ∧ 420 % pd (m + 1) = 0)) : layS pd fr sr (m + 1) = layS pd fr sr m := by rw [layS, if_neg (by unfold cnts; simp only [decide_eq_true_eq]; exact h)]
theorem layS_le (pd fr sr : Nat → Nat) (m : Nat) : (layS pd fr sr m).2.2 ≤ m := by
  induction m with
  | zero => exact Nat.le_refl 0
  | succ m ih =>
    rw [layS]
    split
    · exact Nat.succ_le_succ ih
    · exact Nat.le_succ_of_le ih
theorem LV_A {sr nx pb o b : Nat → Nat} {bp k9 : Nat} {K L : Int} (h0 : (k9 : Int) - ((1 : Nat) : Int) < 0) (hv : -1 ≤ (k9 : Int) ∧ (k9 : Int) ≤ K) (hb : b = BG sr o ((k9 : Int)).toNat) (hcl : sr k9 ≤ nx k9 ∨ bp ≤ pb k9) (hq : lvP sr nx pb bp ((k9 : Int) + 1).toNat = L) : (-1 ≤ (k9 : Int) - ((1 : Nat) : Int) ∧ (k9 : Int) - ((1 : Nat) : Int) ≤ K) ∧ b = BG sr o ((k9 : Int) - ((1 : Nat) : Int)).toNat ∧ lvP sr nx pb bp ((k9 : Int) - ((1 : Nat) : Int) + 1).toNat = L := by
  have e : k9 = 0 := by omega
  refine ⟨by omega, ?_, ?_⟩
  · rw [hb, show ((k9 : Int)).toNat = 0 by omega, show ((k9 : Int) - ((1 : Nat) : Int)).toNat = 0 by omega]
  · rw [show ((k9 : Int) + 1).toNat = k9 + 1 by omega, lvP_t hcl] at hq
    rw [show ((k9 : Int) - ((1 : Nat) : Int) + 1).toNat = k9 by omega, hq]
theorem LV_B {sr nx pb b : Nat → Nat} {bp j9 : Nat} {K L : Int} (hv : -1 ≤ ((j9 + 1 : Nat) : Int) ∧ ((j9 + 1 : Nat) : Int) ≤ K) (hb : b = BG sr (nx1 nx) (((j9 + 1 : Nat) : Int)).toNat) (hcl : sr (j9 + 1) ≤ nx (j9 + 1) ∨ bp ≤ pb (j9 + 1)) (hq : lvP sr nx pb bp (((j9 + 1 : Nat) : Int) + 1).toNat = L) : (-1 ≤ (j9 : Int) ∧ (j9 : Int) ≤ K) ∧ subH (max 1 (sr j9)) (nx j9 - 1) b 420 = BG sr (nx1 nx) ((j9 : Int)).toNat ∧ lvP sr nx pb bp ((j9 : Int) + 1).toNat = L := by
  refine ⟨by omega, ?_, ?_⟩
  · rw [hb, show (((j9 + 1 : Nat) : Int)).toNat = j9 + 1 by omega, show ((j9 : Int)).toNat = j9 by omega]
    exact subadd (max 1 (sr j9)) (nx1 nx j9) (BG sr (nx1 nx) j9)
  · rw [show (((j9 + 1 : Nat) : Int) + 1).toNat = (j9 + 1) + 1 by omega, lvP_t hcl] at hq
    rw [show ((j9 : Int) + 1).toNat = j9 + 1 by omega, hq]
theorem LV_R0 {sr nx pb : Nat → Nat} {bp : Nat} {K v L : Int} (hv : -1 ≤ v ∧ v ≤ K) (hq : lvP sr nx pb bp (v + 1).toNat = L) (h : v < 0) : v = L := by
  rw [show (v + 1).toNat = 0 by omega] at hq
  rw [← hq, show v = -1 by omega]
  rfl
theorem LV_R1 {sr nx pb : Nat → Nat} {bp k9 : Nat} {L : Int} (hq : lvP sr nx pb bp ((k9 : Int) + 1).toNat = L) (h : ¬ (sr k9 ≤ nx k9 ∨ bp ≤ pb k9)) : (k9 : Int) = L := by
  rw [show ((k9 : Int) + 1).toNat = k9 + 1 by omega, lvP_f h] at hq
  exact hq
def zer (bg : Nat → Nat) (j : Nat) : Nat → Nat := fun u => if u < j then 0 else bg u
theorem zer_0 (bg : Nat → Nat) : zer bg 0 = bg := by
  funext u
  unfold zer
  rw [if_neg (by omega)]
theorem zer_s (bg : Nat → Nat) (j : Nat) : updN (zer bg j) j 0 = zer bg (j + 1) := by
  funext u
  unfold updN zer
  by_cases h : u = j
  · subst h
    rw [if_pos rfl, if_pos (by omega)]
  · rw [if_neg h]
    by_cases q : u < j
    · rw [if_pos q, if_pos (by omega)]
    · rw [if_neg q, if_neg (by omega)]
theorem zer_all {bg : Nat → Nat} (h : ∀ u, 420 ≤ u → bg u = 0) : zer bg 420 = fun _ => 0 := by
  funext u
  unfold zer
  by_cases q : u < 420
  · rw [if_pos q]
  · rw [if_neg q, h u (by omega)]
theorem zer_le {bg : Nat → Nat} {j B : Nat} (h : ∀ u, bg u ≤ B) : ∀ u, zer bg j u ≤ B := by
  intro u
  unfold zer
  split
  · omega
  · exact h u
theorem LAYN {pd fr sr f9 g9 : Nat → Nat} {j n c9 : Nat} (hi : j ≤ n) (hf : f9 = (layS pd fr sr j).1) (hg : g9 = (layS pd fr sr j).2.1) (hc : c9 = (layS pd fr sr j).2.2) (hcj : c9 ≤ j) (h1 : j + 1 ≤ n) (h2 : 0 < pd (j + 1) ∧ 420 % pd (j + 1) = 0) : j + 1 ≤ n ∧ updN f9 c9 (j + 1) = (layS pd fr sr (j + 1)).1 ∧ updN g9 c9 (pd (j + 1)) = (layS pd fr sr (j + 1)).2.1 ∧ c9 + 1 = (layS pd fr sr (j + 1)).2.2 ∧ c9 + 1 ≤ j + 1 := by
  subst hf hg hc
  rw [layS_t h2]
  exact ⟨h1, rfl, rfl, rfl, by omega⟩
theorem SeaN_B {sr nx pb o : Nat → Nat} {bp k : Nat} (h : SeaN sr nx pb bp) (hk : k ≤ 1000) : SeaB sr (BG sr o k) := ⟨h.1, fun u => Nat.le_trans (BG_le sr o k u) (by omega)⟩
def sN1 (nx : Nat → Nat) (k : Nat) : Nat → Nat := updN nx k (nx k + 1)
def sN2 (nx : Nat → Nat) (k : Nat) : Nat → Nat := updN (sN1 nx k) (k + 1) 0
def sPk (sr nx pb : Nat → Nat) (k : Nat) : Nat := max (pb k) (mxH (BG sr (nx1 nx) k) (max 1 (sr k)) (nx k) 420)
abbrev SeS : Type := (Nat → Nat) × (Nat → Nat) × (Nat → Nat) × Int × Nat
/-- a step of the search at the place k: next offsets, peaks before, best row, place, best peak -/
def stepS (sr : Nat → Nat) (ps k : Nat) (nx pb br : Nat → Nat) (bp : Nat) : SeS :=
  if sPk sr nx pb k < bp then
    if k + 1 < ps then (sN2 nx k, updN pb (k + 1) (sPk sr nx pb k), br, lvP sr (sN2 nx k) (updN pb (k + 1) (sPk sr nx pb k)) bp (k + 1 + 1), bp)
    else (sN1 nx k, pb, keepR (sN1 nx k) br ps, lvP sr (sN1 nx k) pb (sPk sr nx pb k) (k + 1), sPk sr nx pb k)
  else (sN1 nx k, pb, br, lvP sr (sN1 nx k) pb bp (k + 1), bp)
theorem stepS_d {sr nx pb br : Nat → Nat} {ps k bp x : Nat} (hx : x = sPk sr nx pb k) (h1 : x < bp) (h2 : k + 1 < ps) : stepS sr ps k nx pb br bp = (sN2 nx k, updN pb (k + 1) x, br, lvP sr (sN2 nx k) (updN pb (k + 1) x) bp (k + 1 + 1), bp) := by
  subst hx
  rw [stepS, if_pos h1, if_pos h2]
theorem stepS_l {sr nx pb br : Nat → Nat} {ps k bp x : Nat} (hx : x = sPk sr nx pb k) (h1 : x < bp) (h2 : ¬ k + 1 < ps) : stepS sr ps k nx pb br bp = (sN1 nx k, pb, keepR (sN1 nx k) br ps, lvP sr (sN1 nx k) pb x (k + 1), x) := by
  subst hx
  rw [stepS, if_pos h1, if_neg h2]
theorem stepS_n {sr nx pb br : Nat → Nat} {ps k bp x : Nat} (hx : x = sPk sr nx pb k) (h1 : bp ≤ x) : stepS sr ps k nx pb br bp = (sN1 nx k, pb, br, lvP sr (sN1 nx k) pb bp (k + 1), bp) := by
  subst hx
  rw [stepS, if_neg (by omega)]
theorem sN1_s (nx : Nat → Nat) (k : Nat) : sN1 nx k k = nx k + 1 := updN_s _ _ _
theorem sN1_n {nx : Nat → Nat} {k j : Nat} (h : j ≠ k) : sN1 nx k j = nx j := updN_n h
theorem sN2_n {nx : Nat → Nat} {k j : Nat} (h : j ≠ k + 1) : sN2 nx k j = sN1 nx k j := updN_n h
theorem sN1_le {nx : Nat → Nat} {k : Nat} (h : ∀ j, nx j ≤ 60) (hk : nx k < 60) : ∀ j, sN1 nx k j ≤ 60 := updN_le h (by omega)
theorem sN2_le {nx : Nat → Nat} {k : Nat} (h : ∀ j, nx j ≤ 60) (hk : nx k < 60) : ∀ j, sN2 nx k j ≤ 60 := updN_le (sN1_le h hk) (by omega)
theorem SeaN_1 {sr nx pb : Nat → Nat} {bp k x : Nat} (h : SeaN sr nx pb bp) (hk : nx k < 60) (hx : x ≤ 41) : SeaN sr (sN1 nx k) pb x := ⟨h.1, sN1_le h.2.1 hk, h.2.2.1, hx⟩
theorem SeaN_2 {sr nx pb : Nat → Nat} {bp k x : Nat} (h : SeaN sr nx pb bp) (hk : nx k < 60) (hx : x ≤ 41) : SeaN sr (sN2 nx k) (updN pb (k + 1) x) bp := ⟨h.1, sN2_le h.2.1 hk, updN_le h.2.2.1 hx, h.2.2.2⟩
theorem sN1_pos {nx : Nat → Nat} {k : Nat} (h : ∀ j, j < k → 1 ≤ nx j) : ∀ j, j < k + 1 → 1 ≤ sN1 nx k j := by
  intro j hj
  by_cases e : j = k
  · subst e; rw [sN1_s]; omega
  · rw [sN1_n e]; exact h j (by omega)
theorem sN2_pos {nx : Nat → Nat} {k : Nat} (h : ∀ j, j < k → 1 ≤ nx j) : ∀ j, j < k + 1 → 1 ≤ sN2 nx k j := by
  intro j hj
  rw [sN2_n (by omega)]
  exact sN1_pos h j hj
theorem BG_1 {sr nx : Nat → Nat} {k : Nat} : BG sr (nx1 nx) k = BG sr (nx1 (sN1 nx k)) k := BG_c (fun _ _ => rfl) (fun q hq => by unfold nx1; rw [sN1_n (by omega)])
theorem BG_2 {sr nx : Nat → Nat} {k : Nat} : addH (max 1 (sr k)) (nx k) (BG sr (nx1 nx) k) 420 = BG sr (nx1 (sN2 nx k)) (k + 1) := by
  show _ = addH (max 1 (sr k)) (nx1 (sN2 nx k) k) (BG sr (nx1 (sN2 nx k)) k) 420
  rw [show nx1 (sN2 nx k) k = nx k by unfold nx1; rw [sN2_n (by omega), sN1_s]; omega]
  rw [BG_c (o := nx1 nx) (o' := nx1 (sN2 nx k)) (fun _ _ => rfl) (fun q hq => by unfold nx1; rw [sN2_n (by omega), sN1_n (by omega)])]
def begN (ps : Nat) (nx : Nat → Nat) : Nat → Nat := if 0 < ps then updN nx 0 0 else nx
def begL (ps : Nat) : Int := if 0 < ps then 0 else -1
def givR (fr br of : Nat → Nat) : Nat → Nat → Nat
  | 0 => of
  | j + 1 => updN (givR fr br of j) (fr j) (br j)
theorem givR_le {fr br of : Nat → Nat} (h1 : ∀ j, of j ≤ 60) (h2 : ∀ j, br j ≤ 60) (m : Nat) : ∀ j, givR fr br of m j ≤ 60 := by
  induction m with
  | zero => exact h1
  | succ m ih => exact updN_le ih (h2 m)
def pkS (sr o : Nat → Nat) : Nat → Nat
  | 0 => 0
  | i + 1 => max (pkS sr o i) (mxH (BG sr o i) (max 1 (sr i)) (o i) 420)
theorem pkS_le (sr o : Nat → Nat) (i : Nat) : pkS sr o i ≤ i := by
  induction i with
  | zero => exact Nat.le_refl 0
  | succ i ih =>
    have h := mxH_le (st := max 1 (sr i)) (off := o i) (BG_le sr o i) 420
    show max (pkS sr o i) (mxH (BG sr o i) (max 1 (sr i)) (o i) 420) ≤ i + 1
    omega
theorem TabOK_of {sd pd rk gp of o9 to : Nat → Nat} {n : Nat} (hT : TabOK sd pd rk gp of to n) (h : ∀ j, o9 j ≤ 60) : TabOK sd pd rk gp o9 to n := ⟨hT.1, hT.2.1, hT.2.2.1, hT.2.2.2.1, hT.2.2.2.2.1, h, hT.2.2.2.2.2.2⟩
theorem layS_sr {pd fr sr : Nat → Nat} (h1 : ∀ j, pd j ≤ 60) (h2 : ∀ j, sr j ≤ 60) (m : Nat) : ∀ j, (layS pd fr sr m).2.1 j ≤ 60 := by
  induction m with
  | zero => exact h2
  | succ m ih =>
    by_cases h : 0 < pd (m + 1) ∧ 420 % pd (m + 1) = 0
    · rw [layS_t h]; exact updN_le ih (h1 _)
    · rw [layS_f h]; exact ih
theorem layS_fr {pd fr sr : Nat → Nat} (h2 : ∀ j, fr j ≤ 40) {m : Nat} (hm : m ≤ 40) : ∀ j, (layS pd fr sr m).1 j ≤ 40 := by
  induction m with
  | zero => exact h2
  | succ m ih =>
    by_cases h : 0 < pd (m + 1) ∧ 420 % pd (m + 1) = 0
    · rw [layS_t h]; exact updN_le (ih (by omega)) hm
    · rw [layS_f h]; exact ih (by omega)
end
section
set_option maxHeartbeats 4000000 in
set_option maxRecDepth 100000 in
theorem c_Q_addBegins_dn (l : Launch) (D : va_G) (cI cC : ClassId) (E : Nat → Nat) (z : Nat → Nat) (fr sr nx pb br bg : Nat → Nat) (ps : Nat) (pl : Int) (bp : Nat) (i off : Nat) (hB : SeaB sr bg) (hi : i < 40) (ho : off ≤ 60) (hpos : ∀ t, (∃ k, t = off + k * (max 1 (sr i))) → t < 420 → 1 ≤ bg t) : CV l D (TY cI cC E) m_Q_addBegins (rmD 1) [.ref (z 0), .int (nI i), .int (nI off), .int (iI (-1))] (SeaW z cI fr sr nx pb br bg ps pl bp) (SeaW z cI fr sr nx pb br (subH (max 1 (sr i)) off bg 420) ps pl bp) := by
  obtain ⟨hsr, hbg⟩ := id hB
  refine CN.of (by decide +kernel) (of_decide_eq_true rfl) ?_
  intro p e s m args below meth c C hr hin
  refine V.iconst C (v := nI 1) (n := 1) d_Q_addBegins_0 (by decide) rfl ?_
  refine V.aload_n C (n := 2) (j := 0) d_Q_addBegins_1 rfl rfl rfl ?_
  refine V.get C (n := 5) (q0 := 0) (k0 := 1) clOk_5 rfl (by decide) rfl fl_Q_15 rfl d_Q_addBegins_2 rfl ?_
  refine V.iload_n C (n := 6) (j := 1) d_Q_addBegins_5 rfl rfl rfl ?_
  refine V.iaload_n C (n := 7) (q0 := 2) (t0 := 0) (i := i) rfl rfl (by omega) (by decide) d_Q_addBegins_6 rfl ?_
  have b_1 := hsr (i)
  refine V.max_n C (n := 10) mm_Q (of_decide_eq_true rfl) (of_decide_eq_true rfl) ⟨Nat.le_refl _, Nat.le_refl _⟩ (by omega) (by omega) d_Q_addBegins_7 rfl ?_
  refine V.istore C (n := 12) (lv' := [(0, .ref (z 0)), (1, .int (nI i)), (2, .int (nI off)), (3, .int (iI (-1))), (4, .int (nI (max (1) (sr i))))]) [1, 2, 3, 4, 0] d_Q_addBegins_10 (by decide) rfl rfl ?_
  refine V.iload_n C (n := 13) (j := 2) d_Q_addBegins_12 rfl rfl rfl ?_
  refine V.istore C (n := 15) (lv' := [(0, .ref (z 0)), (1, .int (nI i)), (2, .int (nI off)), (3, .int (iI (-1))), (4, .int (nI (max (1) (sr i)))), (5, .int (nI off))]) [1, 2, 3, 4, 5, 0] d_Q_addBegins_13 (by decide) rfl rfl ?_
  refine V.ind2 C (fun (t : Nat) (b : Nat → Nat) => (SeaW z cI fr sr nx pb br b ps pl bp)) (fun (t : Nat) (b : Nat → Nat) => [(0, .ref (z 0)), (1, .int (nI i)), (2, .int (nI off)), (3, .int (iI (-1))), (4, .int (nI (max (1) (sr i)))), (5, .int (nI t))]) (fun (t : Nat) (b : Nat → Nat) => (t ≤ 480) ∧ (∃ k, t = off + k * (max 1 (sr i))) ∧ (b = subH (max 1 (sr i)) off bg t)) (fun (t : Nat) (b : Nat → Nat) => 480 - t) (off) (bg) ⟨by omega, ⟨0, by omega⟩, (subH_0 _ _ _).symm⟩ rfl rfl ?_
  rintro t b ⟨ht, hk, hp⟩ ih15
  try dsimp only
  refine V.iload C (n := 17) (j := 5) d_Q_addBegins_15 rfl rfl ?_
  refine V.sipush C (v := nI 420) (n := 20) d_Q_addBegins_17 (by decide) rfl ?_
  refine V.icmpn_ge C (tgt := 44) (n := 23) (by omega) (by omega) d_Q_addBegins_20 (by decide) rfl (fun c20_1 => ?_) (fun c20_1 => ?_)
  · exact V.vret C hr d_Q_addBegins_44 () (trivial) (by rw [hp, subH_big (by omega)])
  · refine V.aload_n C (n := 24) (j := 0) d_Q_addBegins_23 rfl rfl rfl ?_
    refine V.get C (n := 27) (q0 := 0) (k0 := 5) clOk_5 rfl (by decide) rfl fl_Q_27 rfl d_Q_addBegins_24 rfl ?_
    refine V.iload C (n := 29) (j := 5) d_Q_addBegins_27 rfl rfl ?_
    refine V.dup2 C (n := 30) d_Q_addBegins_29 rfl rfl rfl ?_
    refine V.iaload_n C (n := 31) (q0 := 6) (t0 := 0) (i := t) rfl rfl (by omega) (by decide) d_Q_addBegins_30 rfl ?_
    have b_2 := True.intro
    refine V.iload_n C (n := 32) (j := 3) d_Q_addBegins_31 rfl rfl rfl ?_
    refine V.iadd_z C (n := 33) d_Q_addBegins_32 (nI_iI (b t)) rfl rfl ?_
    refine V.cv C (y := nI (b t - 1)) (iI_ton (by have h9 : 1 ≤ b t := (by rw [hp, subH_at]; exact hpos t hk (by omega)); omega)) ?_
    refine V.iastore_n C (n := 34) (q0 := 6) (t0 := 0) (i := t) (ws' := (SeaW z cI fr sr nx pb br (updN b t (b t - 1)) ps pl bp)) rfl rfl (by omega) (by decide) rfl d_Q_addBegins_33 rfl ?_
    refine V.iload C (n := 36) (j := 5) d_Q_addBegins_34 rfl rfl ?_
    refine V.iload C (n := 38) (j := 4) d_Q_addBegins_36 rfl rfl ?_
    refine V.iadd_n C (n := 39) d_Q_addBegins_38 rfl ?_
    refine V.istore C (n := 41) (lv' := [(0, .ref (z 0)), (1, .int (nI i)), (2, .int (nI off)), (3, .int (iI (-1))), (4, .int (nI (max (1) (sr i)))), (5, .int (nI (t + (max (1) (sr i)))))]) [1, 2, 3, 4, 5, 0] d_Q_addBegins_39 (by decide) rfl rfl ?_
    refine V.goto C (n := 15) d_Q_addBegins_41 (by decide) ?_
    exact ih15 (t + (max (1) (sr i))) (updN b t (b t - 1)) ⟨by omega, by obtain ⟨k, hk⟩ := hk; exact ⟨k + 1, by rw [hk, Nat.succ_mul]; omega⟩, by rw [hp]; exact subH_s (by omega) hk (by omega)⟩ (by omega)
set_option maxHeartbeats 4000000 in
set_option maxRecDepth 100000 in
theorem c_Q_isClosed (l : Launch) (D : va_G) (cI cC : ClassId) (E : Nat → Nat) (z : Nat → Nat) (fr sr nx pb br bg : Nat → Nat) (ps : Nat) (pl : Int) (bp : Nat) (i : Nat) (hN : SeaN sr nx pb bp) (hi : i < 40) : CI l D (TY cI cC E) m_Q_isClosed (rmD 0) [.ref (z 0), .int (nI i)] ((SeaW z cI fr sr nx pb br bg ps pl bp)) (bI (sr i ≤ nx i ∨ bp ≤ pb i)) ((SeaW z cI fr sr nx pb br bg ps pl bp)) := by
  obtain ⟨hsr, hnx, hpb, hbp⟩ := id hN
  refine CI.of (by decide +kernel) (of_decide_eq_true rfl) ?_
  intro p e s m args below meth c C hr
  refine V.aload_n C (n := 1) (j := 0) d_Q_isClosed_0 rfl rfl rfl ?_
  refine V.get C (n := 4) (q0 := 0) (k0 := 2) clOk_5 rfl (by decide) rfl fl_Q_18 rfl d_Q_isClosed_1 rfl ?_
  refine V.iload_n C (n := 5) (j := 1) d_Q_isClosed_4 rfl rfl rfl ?_
  refine V.iaload_n C (n := 6) (q0 := 3) (t0 := 0) (i := i) rfl rfl (by omega) (by decide) d_Q_isClosed_5 rfl ?_
  have b_1 := hnx (i)
  refine V.aload_n C (n := 7) (j := 0) d_Q_isClosed_6 rfl rfl rfl ?_
  refine V.get C (n := 10) (q0 := 0) (k0 := 1) clOk_5 rfl (by decide) rfl fl_Q_15 rfl d_Q_isClosed_7 rfl ?_
  refine V.iload_n C (n := 11) (j := 1) d_Q_isClosed_10 rfl rfl rfl ?_
  refine V.iaload_n C (n := 12) (q0 := 2) (t0 := 0) (i := i) rfl rfl (by omega) (by decide) d_Q_isClosed_11 rfl ?_
  have b_2 := hsr (i)
  refine V.icmpn_ge C (tgt := 28) (n := 15) (by omega) (by omega) d_Q_isClosed_12 (by decide) rfl (fun c12_1 => ?_) (fun c12_1 => ?_)
  · refine V.iconst C (v := nI 1) (n := 29) d_Q_isClosed_28 (by decide) rfl ?_
    refine V.goto C (n := 33) d_Q_isClosed_29 (by decide) ?_
    exact V.zret C hr (bI_nar _) d_Q_isClosed_33 (by first | exact bI_1 (by omega) | exact bI_0 (by omega)) (rfl)
  · refine V.aload_n C (n := 16) (j := 0) d_Q_isClosed_15 rfl rfl rfl ?_
    refine V.get C (n := 19) (q0 := 0) (k0 := 3) clOk_5 rfl (by decide) rfl fl_Q_21 rfl d_Q_isClosed_16 rfl ?_
    refine V.iload_n C (n := 20) (j := 1) d_Q_isClosed_19 rfl rfl rfl ?_
    refine V.iaload_n C (n := 21) (q0 := 4) (t0 := 0) (i := i) rfl rfl (by omega) (by decide) d_Q_isClosed_20 rfl ?_
    have b_3 := hpb (i)
    refine V.aload_n C (n := 22) (j := 0) d_Q_isClosed_21 rfl rfl rfl ?_
    refine V.get C (n := 25) (q0 := 0) (k0 := 8) clOk_5 rfl (by decide) rfl fl_Q_37 rfl d_Q_isClosed_22 rfl ?_
    refine V.icmpn_lt C (tgt := 32) (n := 28) (by omega) (by omega) d_Q_isClosed_25 (by decide) rfl (fun c25_2 => ?_) (fun c25_2 => ?_)
    · refine V.iconst C (v := nI 0) (n := 33) d_Q_isClosed_32 (by decide) rfl ?_
      exact V.zret C hr (bI_nar _) d_Q_isClosed_33 (by first | exact bI_1 (by omega) | exact bI_0 (by omega)) (rfl)
    · refine V.iconst C (v := nI 1) (n := 29) d_Q_isClosed_28 (by decide) rfl ?_
      refine V.goto C (n := 33) d_Q_isClosed_29 (by decide) ?_
      exact V.zret C hr (bI_nar _) d_Q_isClosed_33 (by first | exact bI_1 (by omega) | exact bI_0 (by omega)) (rfl)
set_option maxHeartbeats 4000000 in
set_option maxRecDepth 100000 in
theorem c_Q_enter (l : Launch) (D : va_G) (cI cC : ClassId) (E : Nat → Nat) (z : Nat → Nat) (fr sr nx pb br bg : Nat → Nat) (ps : Nat) (pl : Int) (bp : Nat) (i x : Nat) (hi : i < 40) : CV l D (TY cI cC E) m_Q_enter (rmD 0) [.ref (z 0), .int (nI i), .int (nI x)] (SeaW z cI fr sr nx pb br bg ps pl bp) (SeaW z cI fr sr (updN nx i 0) (updN pb i x) br bg ps (((i : Nat) : Int)) bp) := by
  refine CN.of (by decide +kernel) (of_decide_eq_true rfl) ?_
  intro p e s m args below meth c C hr hin
  refine V.aload_n C (n := 1) (j := 0) d_Q_enter_0 rfl rfl rfl ?_
  refine V.iload_n C (n := 2) (j := 1) d_Q_enter_1 rfl rfl rfl ?_
  refine V.cv C (y := iI (((i : Nat) : Int))) (nI_iI (i)) ?_
  refine V.put C (n := 5) (q0 := 0) (k0 := 7) (ws' := (SeaW z cI fr sr nx pb br bg ps (((i : Nat) : Int)) bp)) clOk_5 rfl (by decide) rfl rfl fl_Q_34 rfl rfl (of_decide_eq_true rfl) rfl d_Q_enter_2 rfl ?_
  refine V.aload_n C (n := 6) (j := 0) d_Q_enter_5 rfl rfl rfl ?_
  refine V.get C (n := 9) (q0 := 0) (k0 := 2) clOk_5 rfl (by decide) rfl fl_Q_18 rfl d_Q_enter_6 rfl ?_
  refine V.iload_n C (n := 10) (j := 1) d_Q_enter_9 rfl rfl rfl ?_
  refine V.iconst C (v := nI 0) (n := 11) d_Q_enter_10 (by decide) rfl ?_
  refine V.iastore_n C (n := 12) (q0 := 3) (t0 := 0) (i := i) (ws' := (SeaW z cI fr sr (updN nx i 0) pb br bg ps (((i : Nat) : Int)) bp)) rfl rfl (by omega) (by decide) rfl d_Q_enter_11 rfl ?_
  refine V.aload_n C (n := 13) (j := 0) d_Q_enter_12 rfl rfl rfl ?_
  refine V.get C (n := 16) (q0 := 0) (k0 := 3) clOk_5 rfl (by decide) rfl fl_Q_21 rfl d_Q_enter_13 rfl ?_
  refine V.iload_n C (n := 17) (j := 1) d_Q_enter_16 rfl rfl rfl ?_
  refine V.iload_n C (n := 18) (j := 2) d_Q_enter_17 rfl rfl rfl ?_
  refine V.iastore_n C (n := 19) (q0 := 4) (t0 := 0) (i := i) (ws' := (SeaW z cI fr sr (updN nx i 0) (updN pb i x) br bg ps (((i : Nat) : Int)) bp)) rfl rfl (by omega) (by decide) rfl d_Q_enter_18 rfl ?_
  exact V.vret C hr d_Q_enter_19 () (trivial) (rfl)
set_option maxHeartbeats 4000000 in
set_option maxRecDepth 100000 in
theorem c_Q_keepRow (l : Launch) (D : va_G) (cI cC : ClassId) (E : Nat → Nat) (z : Nat → Nat) (fr sr nx pb br bg : Nat → Nat) (ps : Nat) (pl : Int) (bp : Nat) (x : Nat) (hps : ps ≤ 40) (hnx : ∀ j, j < ps → 1 ≤ nx j ∧ nx j ≤ 60) : CV l D (TY cI cC E) m_Q_keepRow (rmD 0) [.ref (z 0), .int (nI x)] (SeaW z cI fr sr nx pb br bg ps pl bp) (SeaW z cI fr sr nx pb (keepR nx br ps) bg ps pl x) := by
  refine CN.of (by decide +kernel) (of_decide_eq_true rfl) ?_
  intro p e s m args below meth c C hr hin
  refine V.aload_n C (n := 1) (j := 0) d_Q_keepRow_0 rfl rfl rfl ?_
  refine V.iload_n C (n := 2) (j := 1) d_Q_keepRow_1 rfl rfl rfl ?_
  refine V.put C (n := 5) (q0 := 0) (k0 := 8) (ws' := (SeaW z cI fr sr nx pb br bg ps pl x)) clOk_5 rfl (by decide) rfl rfl fl_Q_37 rfl rfl (of_decide_eq_true rfl) rfl d_Q_keepRow_2 rfl ?_
  refine V.iconst C (v := nI 0) (n := 6) d_Q_keepRow_5 (by decide) rfl ?_
  refine V.istore_n C (n := 7) (lv' := [(0, .ref (z 0)), (1, .int (nI x)), (2, .int (nI 0))]) [1, 2, 0] d_Q_keepRow_6 rfl (by decide) rfl rfl ?_
  refine V.ind2 C (fun (j : Nat) (b : Nat → Nat) => (SeaW z cI fr sr nx pb b bg ps pl x)) (fun (j : Nat) (b : Nat → Nat) => [(0, .ref (z 0)), (1, .int (nI x)), (2, .int (nI j))]) (fun (j : Nat) (b : Nat → Nat) => (j ≤ ps) ∧ (b = keepR nx br j)) (fun (j : Nat) (b : Nat → Nat) => ps - j) (0) (br) ⟨by omega, (keepR_0 nx br).symm⟩ rfl rfl ?_
  rintro j b ⟨hj, hp⟩ ih7
  try dsimp only
  refine V.iload_n C (n := 8) (j := 2) d_Q_keepRow_7 rfl rfl rfl ?_
  refine V.aload_n C (n := 9) (j := 0) d_Q_keepRow_8 rfl rfl rfl ?_
  refine V.get C (n := 12) (q0 := 0) (k0 := 6) clOk_5 rfl (by decide) rfl fl_Q_30 rfl d_Q_keepRow_9 rfl ?_
  refine V.icmpn_ge C (tgt := 35) (n := 15) (by omega) (by omega) d_Q_keepRow_12 (by decide) rfl (fun c12_1 => ?_) (fun c12_1 => ?_)
  · exact V.vret C hr d_Q_keepRow_35 () (trivial) (by rw [hp, show j = ps by omega])
  · refine V.aload_n C (n := 16) (j := 0) d_Q_keepRow_15 rfl rfl rfl ?_
    refine V.get C (n := 19) (q0 := 0) (k0 := 4) clOk_5 rfl (by decide) rfl fl_Q_24 rfl d_Q_keepRow_16 rfl ?_
    refine V.iload_n C (n := 20) (j := 2) d_Q_keepRow_19 rfl rfl rfl ?_
    refine V.aload_n C (n := 21) (j := 0) d_Q_keepRow_20 rfl rfl rfl ?_
    refine V.get C (n := 24) (q0 := 0) (k0 := 2) clOk_5 rfl (by decide) rfl fl_Q_18 rfl d_Q_keepRow_21 rfl ?_
    refine V.iload_n C (n := 25) (j := 2) d_Q_keepRow_24 rfl rfl rfl ?_
    refine V.iaload_n C (n := 26) (q0 := 3) (t0 := 0) (i := j) rfl rfl (by omega) (by decide) d_Q_keepRow_25 rfl ?_
    have b_1 := hnx (j) (by omega)
    refine V.iconst C (v := nI 1) (n := 27) d_Q_keepRow_26 (by decide) rfl ?_
    refine V.isub_n C (n := 28) d_Q_keepRow_27 (by omega) rfl ?_
    refine V.iastore_n C (n := 29) (q0 := 5) (t0 := 0) (i := j) (ws' := (SeaW z cI fr sr nx pb (updN b j ((nx j) - 1)) bg ps pl x)) rfl rfl (by omega) (by decide) rfl d_Q_keepRow_28 rfl ?_
    refine V.iinc C (n := 32) (j := 2) (v := nI (j + 1)) (lv' := [(0, .ref (z 0)), (1, .int (nI x)), (2, .int (nI (j + 1)))]) [1, 2, 0] d_Q_keepRow_29 rfl (nI_inc (j) 1) (by decide) rfl rfl ?_
    refine V.goto C (n := 7) d_Q_keepRow_32 (by decide) ?_
    exact ih7 (j + 1) (updN b j ((nx j) - 1)) ⟨by omega, by rw [hp]; exact keepR_s nx br j⟩ (by omega)
set_option maxHeartbeats 4000000 in
set_option maxRecDepth 100000 in
theorem c_Q_goOn_deep (l : Launch) (D : va_G) (cI cC : ClassId) (E : Nat → Nat) (z : Nat → Nat) (fr sr nx pb br bg : Nat → Nat) (ps k : Nat) (bp : Nat) (off x : Nat) (hk : k + 1 < ps) (hps : ps ≤ 40) (hB : SeaB sr bg) (ho : off ≤ 60) : CV l D (TY cI cC E) m_Q_goOn (rmD 2) [.ref (z 0), .int (nI off), .int (nI x)] (SeaW z cI fr sr nx pb br bg ps (((k : Nat) : Int)) bp) (SeaW z cI fr sr (updN nx (k + 1) 0) (updN pb (k + 1) x) br (addH (max 1 (sr k)) off bg 420) ps (((k + 1 : Nat) : Int)) bp) := by
  refine CN.of (by decide +kernel) (of_decide_eq_true rfl) ?_
  intro p e s m args below meth c C hr hin
  refine V.aload_n C (n := 1) (j := 0) d_Q_goOn_0 rfl rfl rfl ?_
  refine V.get C (n := 4) (q0 := 0) (k0 := 7) clOk_5 rfl (by decide) rfl fl_Q_34 rfl d_Q_goOn_1 rfl ?_
  refine V.cv C (iI_nat (k)) ?_
  refine V.iconst C (v := nI 1) (n := 5) d_Q_goOn_4 (by decide) rfl ?_
  refine V.iadd_n C (n := 6) d_Q_goOn_5 rfl ?_
  refine V.aload_n C (n := 7) (j := 0) d_Q_goOn_6 rfl rfl rfl ?_
  refine V.get C (n := 10) (q0 := 0) (k0 := 6) clOk_5 rfl (by decide) rfl fl_Q_30 rfl d_Q_goOn_7 rfl ?_
  refine V.icmpn_ge C (tgt := 37) (n := 13) (by omega) (by omega) d_Q_goOn_10 (by decide) rfl (fun c10_1 => ?_) (fun c10_1 => ?_)
  · exfalso; omega
  · refine V.aload_n C (n := 14) (j := 0) d_Q_goOn_13 rfl rfl rfl ?_
    refine V.aload_n C (n := 15) (j := 0) d_Q_goOn_14 rfl rfl rfl ?_
    refine V.get C (n := 18) (q0 := 0) (k0 := 7) clOk_5 rfl (by decide) rfl fl_Q_34 rfl d_Q_goOn_15 rfl ?_
    refine V.cv C (iI_nat (k)) ?_
    refine V.iload_n C (n := 19) (j := 1) d_Q_goOn_18 rfl rfl rfl ?_
    refine V.iconst C (v := nI 1) (n := 20) d_Q_goOn_19 (by decide) rfl ?_
    refine V.callV_v C (n := 23) (ws2 := fun _ => (SeaW z cI fr sr nx pb br (addH (max 1 (sr k)) off bg 420) ps (((k : Nat) : Int)) bp)) (c_Q_addBegins_up l D cI cC E (z) (fr) (sr) (nx) (pb) (br) (bg) (ps) (((k : Nat) : Int)) (bp) (k) (off) (by first | assumption | omega) (by first | assumption | omega) (by first | assumption | omega)) cw_Q_76 [0, 1, 2, 3, 4, 5, 6] [] [0, 1, 2, 3, 4, 5, 6] (qr := 0) rfl rfl rfl (of_decide_eq_true rfl) rfl (of_decide_eq_true rfl) rfl (of_decide_eq_true rfl) (fun _ => rfl) (fun _ => of_decide_eq_true rfl) rfl ⟨rfl, rfl⟩ ⟨by decide, by decide⟩ ⟨by decide, by decide⟩ rfl rfl (of_decide_eq_true rfl) d_Q_goOn_20 rfl (fun _ _ => ?_)
    refine V.aload_n C (n := 24) (j := 0) d_Q_goOn_23 rfl rfl rfl ?_
    refine V.aload_n C (n := 25) (j := 0) d_Q_goOn_24 rfl rfl rfl ?_
    refine V.get C (n := 28) (q0 := 0) (k0 := 7) clOk_5 rfl (by decide) rfl fl_Q_34 rfl d_Q_goOn_25 rfl ?_
    refine V.cv C (iI_nat (k)) ?_
    refine V.iconst C (v := nI 1) (n := 29) d_Q_goOn_28 (by decide) rfl ?_
    refine V.iadd_n C (n := 30) d_Q_goOn_29 rfl ?_
    refine V.iload_n C (n := 31) (j := 2) d_Q_goOn_30 rfl rfl rfl ?_
    refine V.callV_v C (n := 34) (ws2 := fun _ => (SeaW z cI fr sr (updN nx (k + 1) 0) (updN pb (k + 1) x) br (addH (max 1 (sr k)) off bg 420) ps ((((k + 1) : Nat) : Int)) bp)) (c_Q_enter l D cI cC E (z) (fr) (sr) (nx) (pb) (br) (addH (max 1 (sr k)) off bg 420) (ps) (((k : Nat) : Int)) (bp) (k + 1) (x) (by first | assumption | omega)) cw_Q_44 [0, 1, 2, 3, 4, 5, 6] [] [0, 1, 2, 3, 4, 5, 6] (qr := 0) rfl rfl rfl (of_decide_eq_true rfl) rfl (of_decide_eq_true rfl) rfl (of_decide_eq_true rfl) (fun _ => rfl) (fun _ => of_decide_eq_true rfl) rfl ⟨rfl, rfl⟩ ⟨by decide, by decide⟩ ⟨by decide, by decide⟩ rfl rfl (of_decide_eq_true rfl) d_Q_goOn_31 rfl (fun _ _ => ?_)
    refine V.goto C (n := 42) d_Q_goOn_34 (by decide) ?_
    exact V.vret C hr d_Q_goOn_42 () (trivial) (rfl)
set_option maxHeartbeats 4000000 in
set_option maxRecDepth 100000 in
theorem c_Q_goOn_last (l : Launch) (D : va_G) (cI cC : ClassId) (E : Nat → Nat) (z : Nat → Nat) (fr sr nx pb br bg : Nat → Nat) (ps k : Nat) (bp : Nat) (off x : Nat) (hk : k + 1 = ps) (hps : ps ≤ 40) (hnx : ∀ j, j < ps → 1 ≤ nx j ∧ nx j ≤ 60) : CV l D (TY cI cC E) m_Q_goOn (rmD 2) [.ref (z 0), .int (nI off), .int (nI x)] (SeaW z cI fr sr nx pb br bg ps (((k : Nat) : Int)) bp) (SeaW z cI fr sr nx pb (keepR nx br ps) bg ps (((k : Nat) : Int)) x) := by
  refine CN.of (by decide +kernel) (of_decide_eq_true rfl) ?_
  intro p e s m args below meth c C hr hin
  refine V.aload_n C (n := 1) (j := 0) d_Q_goOn_0 rfl rfl rfl ?_
  refine V.get C (n := 4) (q0 := 0) (k0 := 7) clOk_5 rfl (by decide) rfl fl_Q_34 rfl d_Q_goOn_1 rfl ?_
  refine V.cv C (iI_nat (k)) ?_
  refine V.iconst C (v := nI 1) (n := 5) d_Q_goOn_4 (by decide) rfl ?_
  refine V.iadd_n C (n := 6) d_Q_goOn_5 rfl ?_
  refine V.aload_n C (n := 7) (j := 0) d_Q_goOn_6 rfl rfl rfl ?_
  refine V.get C (n := 10) (q0 := 0) (k0 := 6) clOk_5 rfl (by decide) rfl fl_Q_30 rfl d_Q_goOn_7 rfl ?_
  refine V.icmpn_ge C (tgt := 37) (n := 13) (by omega) (by omega) d_Q_goOn_10 (by decide) rfl (fun c10_1 => ?_) (fun c10_1 => ?_)
  · refine V.aload_n C (n := 38) (j := 0) d_Q_goOn_37 rfl rfl rfl ?_
    refine V.iload_n C (n := 39) (j := 2) d_Q_goOn_38 rfl rfl rfl ?_
    refine V.callV_v C (n := 42) (ws2 := fun _ => (SeaW z cI fr sr nx pb (keepR nx br ps) bg ps (((k : Nat) : Int)) x)) (c_Q_keepRow l D cI cC E (z) (fr) (sr) (nx) (pb) (br) (bg) (ps) (((k : Nat) : Int)) (bp) (x) (by first | assumption | omega) (by first | assumption | omega)) cw_Q_87 [0, 1, 2, 3, 4, 5, 6] [] [0, 1, 2, 3, 4, 5, 6] (qr := 0) rfl rfl rfl (of_decide_eq_true rfl) rfl (of_decide_eq_true rfl) rfl (of_decide_eq_true rfl) (fun _ => rfl) (fun _ => of_decide_eq_true rfl) rfl ⟨rfl, rfl⟩ ⟨by decide, by decide⟩ ⟨by decide, by decide⟩ rfl rfl (of_decide_eq_true rfl) d_Q_goOn_39 rfl (fun _ _ => ?_)
    exact V.vret C hr d_Q_goOn_42 () (trivial) (rfl)
  · exfalso; omega
set_option maxHeartbeats 4000000 in
set_option maxRecDepth 100000 in
theorem c_Q_leaveClosedPlaces (l : Launch) (D : va_G) (cI cC : ClassId) (E : Nat → Nat) (z : Nat → Nat) (fr sr nx pb br bg : Nat → Nat) (ps k : Nat) (bp : Nat) (hk : k < 40) (hN : SeaN sr nx pb bp) (hnx1 : ∀ j, j < k → 1 ≤ nx j) (hbg : bg = BG sr (nx1 nx) k) : CV l D (TY cI cC E) m_Q_leaveClosedPlaces (rmD 2) [.ref (z 0)] (SeaW z cI fr sr nx pb br bg ps (((k : Nat) : Int)) bp) (SeaW z cI fr sr nx pb br (BG sr (nx1 nx) (lvP sr nx pb bp (k + 1)).toNat) ps (lvP sr nx pb bp (k + 1)) bp) := by
  obtain ⟨hsr, hnx, hpb, hbp⟩ := id hN
  refine CN.of (by decide +kernel) (of_decide_eq_true rfl) ?_
  intro p e s m args below meth c C hr hin
  refine V.ind2 C (fun (v : Int) (b : Nat → Nat) => (SeaW z cI fr sr nx pb br b ps v bp)) (fun (v : Int) (b : Nat → Nat) => [(0, .ref (z 0))]) (fun (v : Int) (b : Nat → Nat) => (-1 ≤ v ∧ v ≤ (k : Int)) ∧ (b = BG sr (nx1 nx) v.toNat) ∧ (lvP sr nx pb bp (v + 1).toNat = lvP sr nx pb bp (k + 1))) (fun (v : Int) (b : Nat → Nat) => (v + 1).toNat) (((k : Nat) : Int)) (bg) ⟨by omega, by rw [hbg]; try rfl, rfl⟩ rfl rfl ?_
  rintro v b ⟨hv, hb, hq⟩ ih0
  try dsimp only
  refine V.aload_n C (n := 1) (j := 0) d_Q_leaveClosedPlaces_0 rfl rfl rfl ?_
  refine V.get C (n := 4) (q0 := 0) (k0 := 7) clOk_5 rfl (by decide) rfl fl_Q_34 rfl d_Q_leaveClosedPlaces_1 rfl ?_
  refine V.if_lt C (tgt := 58) (n := 7) (iI_toInt (by omega) (by omega)) d_Q_leaveClosedPlaces_4 (by decide) rfl (fun c4_1 => ?_) (fun c4_1 => ?_)
  · exact V.vret C hr d_Q_leaveClosedPlaces_58 () (trivial) (by first | (rw [← LV_R0 hv hq (by assumption), hb]) | (rw [← LV_R1 hq (by assumption), hb]))
  · obtain ⟨k9, rfl⟩ := Int.eq_ofNat_of_zero_le c4_1
    refine V.aload_n C (n := 8) (j := 0) d_Q_leaveClosedPlaces_7 rfl rfl rfl ?_
    refine V.aload_n C (n := 9) (j := 0) d_Q_leaveClosedPlaces_8 rfl rfl rfl ?_
    refine V.get C (n := 12) (q0 := 0) (k0 := 7) clOk_5 rfl (by decide) rfl fl_Q_34 rfl d_Q_leaveClosedPlaces_9 rfl ?_
    refine V.cv C (iI_nat (k9)) ?_
    refine V.callV_i C (n := 15) (ws' := (SeaW z cI fr sr nx pb br b ps (((k9 : Nat) : Int)) bp)) (c_Q_isClosed l D cI cC E (z) (fr) (sr) (nx) (pb) (br) (b) (ps) (((k9 : Nat) : Int)) (bp) (k9) (by first | assumption | omega) (by first | assumption | omega)) cw_Q_91 [0, 1, 2, 3, 4, 5, 6] [] [0, 1, 2, 3, 4, 5, 6] (qr := 0) rfl rfl rfl (of_decide_eq_true rfl) rfl (of_decide_eq_true rfl) rfl (of_decide_eq_true rfl) rfl (of_decide_eq_true rfl) rfl ⟨rfl, rfl⟩ ⟨by decide, by decide⟩ ⟨by decide, by decide⟩ rfl rfl (of_decide_eq_true rfl) d_Q_leaveClosedPlaces_12 rfl ?_
    refine V.ifb_eq C (tgt := 58) (n := 18) d_Q_leaveClosedPlaces_15 (by decide) rfl (fun c15_2 => ?_) (fun c15_2 => ?_)
    · exact V.vret C hr d_Q_leaveClosedPlaces_58 () (trivial) (by first | (rw [← LV_R0 hv hq (by assumption), hb]) | (rw [← LV_R1 hq (by assumption), hb]))
    · have hcl := c15_2
      refine V.aload_n C (n := 19) (j := 0) d_Q_leaveClosedPlaces_18 rfl rfl rfl ?_
      refine V.dup C (n := 20) d_Q_leaveClosedPlaces_19 rfl rfl ?_
      refine V.get C (n := 23) (q0 := 0) (k0 := 7) clOk_5 rfl (by decide) rfl fl_Q_34 rfl d_Q_leaveClosedPlaces_20 rfl ?_
      refine V.cv C (iI_nat (k9)) ?_
      refine V.iconst C (v := nI 1) (n := 24) d_Q_leaveClosedPlaces_23 (by decide) rfl ?_
      refine V.isub_z C (n := 25) d_Q_leaveClosedPlaces_24 (nI_iI (k9)) (nI_iI (1)) rfl ?_
      refine V.put C (n := 28) (q0 := 0) (k0 := 7) (ws' := (SeaW z cI fr sr nx pb br b ps (((k9 : Nat) : Int) - (((1 : Nat) : Int))) bp)) clOk_5 rfl (by decide) rfl rfl fl_Q_34 rfl rfl (of_decide_eq_true rfl) rfl d_Q_leaveClosedPlaces_25 rfl ?_
      refine V.aload_n C (n := 29) (j := 0) d_Q_leaveClosedPlaces_28 rfl rfl rfl ?_
      refine V.get C (n := 32) (q0 := 0) (k0 := 7) clOk_5 rfl (by decide) rfl fl_Q_34 rfl d_Q_leaveClosedPlaces_29 rfl ?_
      refine V.if_lt C (tgt := 0) (n := 35) (iI_toInt (by omega) (by omega)) d_Q_leaveClosedPlaces_32 (by decide) rfl (fun c32_3 => ?_) (fun c32_3 => ?_)
      · exact ih0 (((k9 : Nat) : Int) - (((1 : Nat) : Int))) (b) (LV_A (by omega) hv hb hcl hq) (by omega)
      · obtain ⟨j9, hj9⟩ : ∃ j9 : Nat, k9 = j9 + 1 := ⟨k9 - 1, by omega⟩
        subst hj9
        refine V.wo C (ws' := (SeaW z cI fr sr nx pb br b ps (((j9 : Nat) : Int)) bp)) (by rw [show (((j9 + 1 : Nat) : Int)) - ((1 : Nat) : Int) = ((j9 : Nat) : Int) by omega]) ?_
        refine V.aload_n C (n := 36) (j := 0) d_Q_leaveClosedPlaces_35 rfl rfl rfl ?_
        refine V.aload_n C (n := 37) (j := 0) d_Q_leaveClosedPlaces_36 rfl rfl rfl ?_
        refine V.get C (n := 40) (q0 := 0) (k0 := 7) clOk_5 rfl (by decide) rfl fl_Q_34 rfl d_Q_leaveClosedPlaces_37 rfl ?_
        refine V.cv C (iI_nat (j9)) ?_
        refine V.aload_n C (n := 41) (j := 0) d_Q_leaveClosedPlaces_40 rfl rfl rfl ?_
        refine V.get C (n := 44) (q0 := 0) (k0 := 2) clOk_5 rfl (by decide) rfl fl_Q_18 rfl d_Q_leaveClosedPlaces_41 rfl ?_
        refine V.aload_n C (n := 45) (j := 0) d_Q_leaveClosedPlaces_44 rfl rfl rfl ?_
        refine V.get C (n := 48) (q0 := 0) (k0 := 7) clOk_5 rfl (by decide) rfl fl_Q_34 rfl d_Q_leaveClosedPlaces_45 rfl ?_
        refine V.cv C (iI_nat (j9)) ?_
        refine V.iaload_n C (n := 49) (q0 := 3) (t0 := 0) (i := j9) rfl rfl (by omega) (by decide) d_Q_leaveClosedPlaces_48 rfl ?_
        have b_1 := And.intro (hnx (j9)) (hnx1 (j9) (by omega))
        refine V.iconst C (v := nI 1) (n := 50) d_Q_leaveClosedPlaces_49 (by decide) rfl ?_
        refine V.isub_n C (n := 51) d_Q_leaveClosedPlaces_50 (by omega) rfl ?_
        refine V.iconst C (v := iI (-1)) (n := 52) d_Q_leaveClosedPlaces_51 (by decide) rfl ?_
        refine V.callV_v C (n := 55) (ws2 := fun _ => (SeaW z cI fr sr nx pb br (subH (max 1 (sr j9)) ((nx j9) - 1) b 420) ps (((j9 : Nat) : Int)) bp)) (c_Q_addBegins_dn l D cI cC E (z) (fr) (sr) (nx) (pb) (br) (b) (ps) (((j9 : Nat) : Int)) (bp) (j9) ((nx j9) - 1) ⟨hsr, by rw [hb]; exact fun u => Nat.le_trans (BG_le _ _ _ u) (by omega)⟩ (by first | assumption | omega) (by first | assumption | omega) (by rw [hb]; exact fun t h1 h2 => addH_at h1 h2)) cw_Q_76 [0, 1, 2, 3, 4, 5, 6] [] [0, 1, 2, 3, 4, 5, 6] (qr := 0) rfl rfl rfl (of_decide_eq_true rfl) rfl (of_decide_eq_true rfl) rfl (of_decide_eq_true rfl) (fun _ => rfl) (fun _ => of_decide_eq_true rfl) rfl ⟨rfl, rfl⟩ ⟨by decide, by decide⟩ ⟨by decide, by decide⟩ rfl rfl (of_decide_eq_true rfl) d_Q_leaveClosedPlaces_52 rfl (fun _ _ => ?_)
        refine V.goto C (n := 0) d_Q_leaveClosedPlaces_55 (by decide) ?_
        exact ih0 (((j9 : Nat) : Int)) (subH (max 1 (sr j9)) ((nx j9) - 1) b 420) (LV_B hv hb hcl hq) (by omega)
set_option maxHeartbeats 4000000 in
set_option maxRecDepth 100000 in
theorem c_Q_step (l : Launch) (D : va_G) (cI cC : ClassId) (E : Nat → Nat) (z : Nat → Nat) (fr sr nx pb br bg : Nat → Nat) (ps k : Nat) (bp : Nat) (hk : k < ps) (hps : ps ≤ 40) (hN : SeaN sr nx pb bp) (hn1 : ∀ j, j < k → 1 ≤ nx j) (hnk : nx k < 60) (hbg : bg = BG sr (nx1 nx) k) : CV l D (TY cI cC E) m_Q_step (rmD 3) [.ref (z 0)] (SeaW z cI fr sr nx pb br bg ps (((k : Nat) : Int)) bp) (SeaW z cI fr sr ((stepS sr ps k nx pb br bp).1) ((stepS sr ps k nx pb br bp).2.1) ((stepS sr ps k nx pb br bp).2.2.1) (BG sr (nx1 (stepS sr ps k nx pb br bp).1) ((stepS sr ps k nx pb br bp).2.2.2.1).toNat) ps ((stepS sr ps k nx pb br bp).2.2.2.1) ((stepS sr ps k nx pb br bp).2.2.2.2)) := by
  obtain ⟨hsr, hnx, hpb, hbp⟩ := id hN
  have hB9 : SeaB sr bg := by rw [hbg]; exact SeaN_B hN (by omega)
  have hmx := mxH_le (st := max 1 (sr k)) (off := nx k) (show ∀ u, bg u ≤ 40 by rw [hbg]; exact fun u => Nat.le_trans (BG_le _ _ _ u) (by omega)) 420
  refine CN.of (by decide +kernel) (of_decide_eq_true rfl) ?_
  intro p e s m args below meth c C hr hin
  refine V.aload_n C (n := 1) (j := 0) d_Q_step_0 rfl rfl rfl ?_
  refine V.callV_i C (n := 4) (ws' := (SeaW z cI fr sr nx pb br bg ps (((k : Nat) : Int)) bp)) (c_Q_isOver l D cI cC E (z) (fr) (sr) (nx) (pb) (br) (bg) (ps) (((k : Nat) : Int)) (bp) (by first | assumption | omega)) cw_Q_48 [0, 1, 2, 3, 4, 5, 6] [] [0, 1, 2, 3, 4, 5, 6] (qr := 0) rfl rfl rfl (of_decide_eq_true rfl) rfl (of_decide_eq_true rfl) rfl (of_decide_eq_true rfl) rfl (of_decide_eq_true rfl) rfl ⟨rfl, rfl⟩ ⟨by decide, by decide⟩ ⟨by decide, by decide⟩ rfl rfl (of_decide_eq_true rfl) d_Q_step_1 rfl ?_
  refine V.ifb_eq C (tgt := 8) (n := 7) d_Q_step_4 (by decide) rfl (fun c4_1 => ?_) (fun c4_1 => ?_)
  · refine V.aload_n C (n := 9) (j := 0) d_Q_step_8 rfl rfl rfl ?_
    refine V.get C (n := 12) (q0 := 0) (k0 := 2) clOk_5 rfl (by decide) rfl fl_Q_18 rfl d_Q_step_9 rfl ?_
    refine V.aload_n C (n := 13) (j := 0) d_Q_step_12 rfl rfl rfl ?_
    refine V.get C (n := 16) (q0 := 0) (k0 := 7) clOk_5 rfl (by decide) rfl fl_Q_34 rfl d_Q_step_13 rfl ?_
    refine V.cv C (iI_nat (k)) ?_
    refine V.iaload_n C (n := 17) (q0 := 3) (t0 := 0) (i := k) rfl rfl (by omega) (by decide) d_Q_step_16 rfl ?_
    have b_1 := hnx (k)
    refine V.istore_n C (n := 18) (lv' := [(0, .ref (z 0)), (1, .int (nI (nx k)))]) [1, 0] d_Q_step_17 rfl (by decide) rfl rfl ?_
    refine V.aload_n C (n := 19) (j := 0) d_Q_step_18 rfl rfl rfl ?_
    refine V.get C (n := 22) (q0 := 0) (k0 := 2) clOk_5 rfl (by decide) rfl fl_Q_18 rfl d_Q_step_19 rfl ?_
    refine V.aload_n C (n := 23) (j := 0) d_Q_step_22 rfl rfl rfl ?_
    refine V.get C (n := 26) (q0 := 0) (k0 := 7) clOk_5 rfl (by decide) rfl fl_Q_34 rfl d_Q_step_23 rfl ?_
    refine V.cv C (iI_nat (k)) ?_
    refine V.dup2 C (n := 27) d_Q_step_26 rfl rfl rfl ?_
    refine V.iaload_n C (n := 28) (q0 := 3) (t0 := 0) (i := k) rfl rfl (by omega) (by decide) d_Q_step_27 rfl ?_
    have b_2 := hnx (k)
    refine V.iconst C (v := nI 1) (n := 29) d_Q_step_28 (by decide) rfl ?_
    refine V.iadd_n C (n := 30) d_Q_step_29 rfl ?_
    refine V.iastore_n C (n := 31) (q0 := 3) (t0 := 0) (i := k) (ws' := (SeaW z cI fr sr (updN nx k ((nx k) + 1)) pb br bg ps (((k : Nat) : Int)) bp)) rfl rfl (by omega) (by decide) rfl d_Q_step_30 rfl ?_
    refine V.aload_n C (n := 32) (j := 0) d_Q_step_31 rfl rfl rfl ?_
    refine V.get C (n := 35) (q0 := 0) (k0 := 3) clOk_5 rfl (by decide) rfl fl_Q_21 rfl d_Q_step_32 rfl ?_
    refine V.aload_n C (n := 36) (j := 0) d_Q_step_35 rfl rfl rfl ?_
    refine V.get C (n := 39) (q0 := 0) (k0 := 7) clOk_5 rfl (by decide) rfl fl_Q_34 rfl d_Q_step_36 rfl ?_
    refine V.cv C (iI_nat (k)) ?_
    refine V.iaload_n C (n := 40) (q0 := 4) (t0 := 0) (i := k) rfl rfl (by omega) (by decide) d_Q_step_39 rfl ?_
    have b_3 := hpb (k)
    refine V.aload_n C (n := 41) (j := 0) d_Q_step_40 rfl rfl rfl ?_
    refine V.aload_n C (n := 42) (j := 0) d_Q_step_41 rfl rfl rfl ?_
    refine V.get C (n := 45) (q0 := 0) (k0 := 7) clOk_5 rfl (by decide) rfl fl_Q_34 rfl d_Q_step_42 rfl ?_
    refine V.cv C (iI_nat (k)) ?_
    refine V.iload_n C (n := 46) (j := 1) d_Q_step_45 rfl rfl rfl ?_
    refine V.callV_i C (n := 49) (ws' := (SeaW z cI fr sr (updN nx k ((nx k) + 1)) pb br bg ps (((k : Nat) : Int)) bp)) (c_Q_mostBeginsWith l D cI cC E (z) (fr) (sr) (updN nx k ((nx k) + 1)) (pb) (br) (bg) (ps) (((k : Nat) : Int)) (bp) (k) (nx k) hB9 (by first | assumption | omega) (by first | assumption | omega)) cw_Q_52 [0, 1, 2, 3, 4, 5, 6] [] [0, 1, 2, 3, 4, 5, 6] (qr := 0) rfl rfl rfl (of_decide_eq_true rfl) rfl (of_decide_eq_true rfl) rfl (of_decide_eq_true rfl) rfl (of_decide_eq_true rfl) rfl ⟨rfl, rfl⟩ ⟨by decide, by decide⟩ ⟨by decide, by decide⟩ rfl rfl (of_decide_eq_true rfl) d_Q_step_46 rfl ?_
    refine V.max_n C (n := 52) mm_Q (of_decide_eq_true rfl) (of_decide_eq_true rfl) ⟨Nat.le_refl _, Nat.le_refl _⟩ (by omega) (by omega) d_Q_step_49 rfl ?_
    obtain ⟨x9, hx9⟩ : ∃ x9, x9 = sPk sr nx pb k := ⟨_, rfl⟩
    refine V.cv C (y := nI x9) (by rw [hx9, sPk, hbg]) ?_
    have hx41 : x9 ≤ 41 := by rw [hx9, sPk, ← hbg]; omega
    refine V.istore_n C (n := 53) (lv' := [(0, .ref (z 0)), (1, .int (nI (nx k))), (2, .int (nI x9))]) [1, 2, 0] d_Q_step_52 rfl (by decide) rfl rfl ?_
    refine V.iload_n C (n := 54) (j := 2) d_Q_step_53 rfl rfl rfl ?_
    refine V.aload_n C (n := 55) (j := 0) d_Q_step_54 rfl rfl rfl ?_
    refine V.get C (n := 58) (q0 := 0) (k0 := 8) clOk_5 rfl (by decide) rfl fl_Q_37 rfl d_Q_step_55 rfl ?_
    refine V.icmpn_ge C (tgt := 67) (n := 61) (by omega) (by omega) d_Q_step_58 (by decide) rfl (fun c58_2 => ?_) (fun c58_2 => ?_)
    · refine V.aload_n C (n := 68) (j := 0) d_Q_step_67 rfl rfl rfl ?_
      refine V.callV_v C (n := 71) (ws2 := fun _ => (SeaW z cI fr sr (updN nx k ((nx k) + 1)) pb br (BG sr (nx1 (updN nx k ((nx k) + 1))) (lvP sr (updN nx k ((nx k) + 1)) pb bp (k + 1)).toNat) ps (lvP sr (updN nx k ((nx k) + 1)) pb bp (k + 1)) bp)) (c_Q_leaveClosedPlaces l D cI cC E (z) (fr) (sr) (updN nx k ((nx k) + 1)) (pb) (br) (bg) (ps) (k) (bp) (by omega) (SeaN_1 hN hnk (by omega)) (fun j hj => sN1_pos hn1 j (by omega)) (by rw [hbg]; exact BG_1)) cw_Q_64 [0, 1, 2, 3, 4, 5, 6] [] [0, 1, 2, 3, 4, 5, 6] (qr := 0) rfl rfl rfl (of_decide_eq_true rfl) rfl (of_decide_eq_true rfl) rfl (of_decide_eq_true rfl) (fun _ => rfl) (fun _ => of_decide_eq_true rfl) rfl ⟨rfl, rfl⟩ ⟨by decide, by decide⟩ ⟨by decide, by decide⟩ rfl rfl (of_decide_eq_true rfl) d_Q_step_68 rfl (fun _ _ => ?_)
      exact V.vret C hr d_Q_step_71 () (trivial) (by first | rw [stepS_n hx9 (by omega)]; try rfl | rw [stepS_d hx9 (by omega) hd]; try rfl | rw [stepS_l hx9 (by omega) hd]; try rfl)
    · by_cases hd : k + 1 < ps
      · refine V.aload_n C (n := 62) (j := 0) d_Q_step_61 rfl rfl rfl ?_
        refine V.iload_n C (n := 63) (j := 1) d_Q_step_62 rfl rfl rfl ?_
        refine V.iload_n C (n := 64) (j := 2) d_Q_step_63 rfl rfl rfl ?_
        refine V.callV_v C (n := 67) (ws2 := fun _ => (SeaW z cI fr sr (updN (updN nx k ((nx k) + 1)) (k + 1) 0) (updN pb (k + 1) x9) br (addH (max 1 (sr k)) (nx k) bg 420) ps (((k + 1 : Nat) : Int)) bp)) (c_Q_goOn_deep l D cI cC E (z) (fr) (sr) (updN nx k ((nx k) + 1)) (pb) (br) (bg) (ps) (k) (bp) (nx k) (x9) (by omega) (by first | assumption | omega) hB9 (by first | assumption | omega)) cw_Q_61 [0, 1, 2, 3, 4, 5, 6] [] [0, 1, 2, 3, 4, 5, 6] (qr := 0) rfl rfl rfl (of_decide_eq_true rfl) rfl (of_decide_eq_true rfl) rfl (of_decide_eq_true rfl) (fun _ => rfl) (fun _ => of_decide_eq_true rfl) rfl ⟨rfl, rfl⟩ ⟨by decide, by decide⟩ ⟨by decide, by decide⟩ rfl rfl (of_decide_eq_true rfl) d_Q_step_64 rfl (fun _ _ => ?_)
        refine V.aload_n C (n := 68) (j := 0) d_Q_step_67 rfl rfl rfl ?_
        refine V.callV_v C (n := 71) (ws2 := fun _ => (SeaW z cI fr sr (updN (updN nx k ((nx k) + 1)) (k + 1) 0) (updN pb (k + 1) x9) br (BG sr (nx1 (updN (updN nx k ((nx k) + 1)) (k + 1) 0)) (lvP sr (updN (updN nx k ((nx k) + 1)) (k + 1) 0) (updN pb (k + 1) x9) bp ((k + 1) + 1)).toNat) ps (lvP sr (updN (updN nx k ((nx k) + 1)) (k + 1) 0) (updN pb (k + 1) x9) bp ((k + 1) + 1)) bp)) (c_Q_leaveClosedPlaces l D cI cC E (z) (fr) (sr) (updN (updN nx k ((nx k) + 1)) (k + 1) 0) (updN pb (k + 1) x9) (br) (addH (max 1 (sr k)) (nx k) bg 420) (ps) (k + 1) (bp) (by omega) (SeaN_2 hN hnk hx41) (sN2_pos hn1) (by rw [hbg]; exact BG_2)) cw_Q_64 [0, 1, 2, 3, 4, 5, 6] [] [0, 1, 2, 3, 4, 5, 6] (qr := 0) rfl rfl rfl (of_decide_eq_true rfl) rfl (of_decide_eq_true rfl) rfl (of_decide_eq_true rfl) (fun _ => rfl) (fun _ => of_decide_eq_true rfl) rfl ⟨rfl, rfl⟩ ⟨by decide, by decide⟩ ⟨by decide, by decide⟩ rfl rfl (of_decide_eq_true rfl) d_Q_step_68 rfl (fun _ _ => ?_)
        exact V.vret C hr d_Q_step_71 () (trivial) (by first | rw [stepS_n hx9 (by omega)]; try rfl | rw [stepS_d hx9 (by omega) hd]; try rfl | rw [stepS_l hx9 (by omega) hd]; try rfl)
      · refine V.aload_n C (n := 62) (j := 0) d_Q_step_61 rfl rfl rfl ?_
        refine V.iload_n C (n := 63) (j := 1) d_Q_step_62 rfl rfl rfl ?_
        refine V.iload_n C (n := 64) (j := 2) d_Q_step_63 rfl rfl rfl ?_
        refine V.callV_v C (n := 67) (ws2 := fun _ => (SeaW z cI fr sr (updN nx k ((nx k) + 1)) pb (keepR (updN nx k ((nx k) + 1)) br ps) bg ps (((k : Nat) : Int)) x9)) (c_Q_goOn_last l D cI cC E (z) (fr) (sr) (updN nx k ((nx k) + 1)) (pb) (br) (bg) (ps) (k) (bp) (nx k) (x9) (by omega) (by first | assumption | omega) (fun j hj => ⟨sN1_pos hn1 j (by omega), sN1_le hnx hnk j⟩)) cw_Q_61 [0, 1, 2, 3, 4, 5, 6] [] [0, 1, 2, 3, 4, 5, 6] (qr := 0) rfl rfl rfl (of_decide_eq_true rfl) rfl (of_decide_eq_true rfl) rfl (of_decide_eq_true rfl) (fun _ => rfl) (fun _ => of_decide_eq_true rfl) rfl ⟨rfl, rfl⟩ ⟨by decide, by decide⟩ ⟨by decide, by decide⟩ rfl rfl (of_decide_eq_true rfl) d_Q_step_64 rfl (fun _ _ => ?_)
        refine V.aload_n C (n := 68) (j := 0) d_Q_step_67 rfl rfl rfl ?_
        refine V.callV_v C (n := 71) (ws2 := fun _ => (SeaW z cI fr sr (updN nx k ((nx k) + 1)) pb (keepR (updN nx k ((nx k) + 1)) br ps) (BG sr (nx1 (updN nx k ((nx k) + 1))) (lvP sr (updN nx k ((nx k) + 1)) pb x9 (k + 1)).toNat) ps (lvP sr (updN nx k ((nx k) + 1)) pb x9 (k + 1)) x9)) (c_Q_leaveClosedPlaces l D cI cC E (z) (fr) (sr) (updN nx k ((nx k) + 1)) (pb) (keepR (updN nx k ((nx k) + 1)) br ps) (bg) (ps) (k) (x9) (by omega) (SeaN_1 hN hnk (by omega)) (fun j hj => sN1_pos hn1 j (by omega)) (by rw [hbg]; exact BG_1)) cw_Q_64 [0, 1, 2, 3, 4, 5, 6] [] [0, 1, 2, 3, 4, 5, 6] (qr := 0) rfl rfl rfl (of_decide_eq_true rfl) rfl (of_decide_eq_true rfl) rfl (of_decide_eq_true rfl) (fun _ => rfl) (fun _ => of_decide_eq_true rfl) rfl ⟨rfl, rfl⟩ ⟨by decide, by decide⟩ ⟨by decide, by decide⟩ rfl rfl (of_decide_eq_true rfl) d_Q_step_68 rfl (fun _ _ => ?_)
        exact V.vret C hr d_Q_step_71 () (trivial) (by first | rw [stepS_n hx9 (by omega)]; try rfl | rw [stepS_d hx9 (by omega) hd]; try rfl | rw [stepS_l hx9 (by omega) hd]; try rfl)
  · exfalso; omega
set_option maxHeartbeats 4000000 in
set_option maxRecDepth 100000 in
theorem c_Q_lay (l : Launch) (D : va_G) (cI cC : ClassId) (E : Nat → Nat) (z a : Nat → Nat) (fr sr nx pb br bg : Nat → Nat) (ps : Nat) (pl : Int) (bp : Nat) (sd pd rk gp of to : Nat → Nat) (n : Nat) (hT : TabOK sd pd rk gp of to n) (hz : ∀ u, 420 ≤ u → bg u = 0) : CV l D (TY cI cC E) m_Q_lay (rmD 1) [.ref (z 0), .ref (a 0)] ((SeaW z cI fr sr nx pb br bg ps pl bp) ++ (TabW a cI sd pd rk gp of to n)) ((SeaW z cI ((layS pd fr sr n).1) ((layS pd fr sr n).2.1) nx pb br (fun _ => 0) ((layS pd fr sr n).2.2) pl bp) ++ (TabW a cI sd pd rk gp of to n)) := by
  obtain ⟨hn, hsd, hpd, hrk, hgp, hof, hto⟩ := id hT
  refine CN.of (by decide +kernel) (of_decide_eq_true rfl) ?_
  intro p e s m args below meth c C hr hin
  refine V.iconst C (v := nI 0) (n := 1) d_Q_lay_0 (by decide) rfl ?_
  refine V.istore_n C (n := 2) (lv' := [(0, .ref (z 0)), (1, .ref (a 0)), (2, .int (nI 0))]) [1, 2, 0] d_Q_lay_1 rfl (by decide) rfl rfl ?_
  refine V.ind2 C (fun (j : Nat) (b : Nat → Nat) => (SeaW z cI fr sr nx pb br b ps pl bp) ++ (TabW a cI sd pd rk gp of to n)) (fun (j : Nat) (b : Nat → Nat) => [(0, .ref (z 0)), (1, .ref (a 0)), (2, .int (nI j))]) (fun (j : Nat) (b : Nat → Nat) => (j ≤ 420) ∧ (b = zer bg j)) (fun (j : Nat) (b : Nat → Nat) => 420 - j) (0) (bg) ⟨by omega, (zer_0 bg).symm⟩ rfl rfl ?_
  rintro j b ⟨hj, hb⟩ ih2
  try dsimp only
  refine V.iload_n C (n := 3) (j := 2) d_Q_lay_2 rfl rfl rfl ?_
  refine V.sipush C (v := nI 420) (n := 6) d_Q_lay_3 (by decide) rfl ?_
  refine V.icmpn_ge C (tgt := 22) (n := 9) (by omega) (by omega) d_Q_lay_6 (by decide) rfl (fun c6_1 => ?_) (fun c6_1 => ?_)
  · have hb2 : b = fun _ => 0 := by rw [hb, show j = 420 by omega, zer_all hz]
    refine V.wo C (ws' := (SeaW z cI fr sr nx pb br (fun _ => 0) ps pl bp) ++ (TabW a cI sd pd rk gp of to n)) (by rw [hb2]) ?_
    refine V.aload_n C (n := 23) (j := 0) d_Q_lay_22 rfl rfl rfl ?_
    refine V.iconst C (v := nI 0) (n := 24) d_Q_lay_23 (by decide) rfl ?_
    refine V.put C (n := 27) (q0 := 0) (k0 := 6) (ws' := (SeaW z cI fr sr nx pb br (fun _ => 0) 0 pl bp) ++ (TabW a cI sd pd rk gp of to n)) clOk_5 rfl (by decide) rfl rfl fl_Q_30 rfl rfl (of_decide_eq_true rfl) rfl d_Q_lay_24 rfl ?_
    refine V.iconst C (v := nI 1) (n := 28) d_Q_lay_27 (by decide) rfl ?_
    refine V.istore_n C (n := 29) (lv' := [(0, .ref (z 0)), (1, .ref (a 0)), (2, .int (nI 1))]) [1, 2, 0] d_Q_lay_28 rfl (by decide) rfl rfl ?_
    refine V.ind4 C (fun (j : Nat) (f9 : Nat → Nat) (g9 : Nat → Nat) (c9 : Nat) => (SeaW z cI f9 g9 nx pb br (fun _ => 0) c9 pl bp) ++ (TabW a cI sd pd rk gp of to n)) (fun (j : Nat) (f9 : Nat → Nat) (g9 : Nat → Nat) (c9 : Nat) => [(0, .ref (z 0)), (1, .ref (a 0)), (2, .int (nI (j + 1)))]) (fun (j : Nat) (f9 : Nat → Nat) (g9 : Nat → Nat) (c9 : Nat) => (j ≤ n) ∧ (f9 = (layS pd fr sr j).1) ∧ (g9 = (layS pd fr sr j).2.1) ∧ (c9 = (layS pd fr sr j).2.2) ∧ (c9 ≤ j)) (fun (j : Nat) (f9 : Nat → Nat) (g9 : Nat → Nat) (c9 : Nat) => n - j) (0) (fr) (sr) (0) ⟨by omega, rfl, rfl, rfl, by omega⟩ rfl rfl ?_
    rintro j f9 g9 c9 ⟨hi, hf, hg, hc, hcj⟩ ih29
    try dsimp only
    refine V.iload_n C (n := 30) (j := 2) d_Q_lay_29 rfl rfl rfl ?_
    refine V.aload_n C (n := 31) (j := 1) d_Q_lay_30 rfl rfl rfl ?_
    refine V.callV_i C (n := 34) (ws' := (SeaW z cI f9 g9 nx pb br (fun _ => 0) c9 pl bp) ++ (TabW a cI sd pd rk gp of to n)) (c_T_size l D cI cC E (a) (sd) (pd) (rk) (gp) (of) (to) (n) (by first | assumption | omega)) cw_Q_80 [7, 8, 9, 10, 11, 12, 13] [0, 1, 2, 3, 4, 5, 6] [0, 1, 2, 3, 4, 5, 6, 7, 8, 9, 10, 11, 12, 13] (qr := 0) rfl rfl rfl (of_decide_eq_true rfl) rfl (of_decide_eq_true rfl) rfl (of_decide_eq_true rfl) rfl (of_decide_eq_true rfl) rfl ⟨rfl, rfl⟩ ⟨by decide, by decide⟩ ⟨by decide, by decide⟩ rfl rfl (of_decide_eq_true rfl) d_Q_lay_31 rfl ?_
    refine V.icmpn_gt C (tgt := 100) (n := 37) (by omega) (by omega) d_Q_lay_34 (by decide) rfl (fun c34_2 => ?_) (fun c34_2 => ?_)
    · exact V.vret C hr d_Q_lay_100 () (trivial) (by rw [hf, hg, hc, show j = n by omega])
    · refine V.aload_n C (n := 38) (j := 0) d_Q_lay_37 rfl rfl rfl ?_
      refine V.get C (n := 41) (q0 := 0) (k0 := 6) clOk_5 rfl (by decide) rfl fl_Q_30 rfl d_Q_lay_38 rfl ?_
      refine V.bipush C (v := nI 40) (n := 43) d_Q_lay_41 (by decide) rfl ?_
      refine V.icmpn_ge C (tgt := 100) (n := 46) (by omega) (by omega) d_Q_lay_43 (by decide) rfl (fun c43_3 => ?_) (fun c43_3 => ?_)
      · exfalso; omega
      · refine V.aload_n C (n := 47) (j := 1) d_Q_lay_46 rfl rfl rfl ?_
        refine V.iload_n C (n := 48) (j := 2) d_Q_lay_47 rfl rfl rfl ?_
        refine V.callV_i C (n := 51) (ws' := (SeaW z cI f9 g9 nx pb br (fun _ => 0) c9 pl bp) ++ (TabW a cI sd pd rk gp of to n)) (c_T_periodOf l D cI cC E (a) (sd) (pd) (rk) (gp) (of) (to) (n) (j + 1) (by first | assumption | omega) (by first | assumption | omega)) cw_Q_84 [7, 8, 9, 10, 11, 12, 13] [0, 1, 2, 3, 4, 5, 6] [0, 1, 2, 3, 4, 5, 6, 7, 8, 9, 10, 11, 12, 13] (qr := 0) rfl rfl rfl (of_decide_eq_true rfl) rfl (of_decide_eq_true rfl) rfl (of_decide_eq_true rfl) rfl (of_decide_eq_true rfl) rfl ⟨rfl, rfl⟩ ⟨by decide, by decide⟩ ⟨by decide, by decide⟩ rfl rfl (of_decide_eq_true rfl) d_Q_lay_48 rfl ?_
        have b_1 := hpd ((j + 1))
        refine V.istore_n C (n := 52) (lv' := [(0, .ref (z 0)), (1, .ref (a 0)), (2, .int (nI (j + 1))), (3, .int (nI (pd (j + 1))))]) [1, 2, 3, 0] d_Q_lay_51 rfl (by decide) rfl rfl ?_
        refine V.iload_n C (n := 53) (j := 3) d_Q_lay_52 rfl rfl rfl ?_
        refine V.ifn_le C (tgt := 94) (n := 56) (by omega) d_Q_lay_53 (by decide) rfl (fun c53_4 => ?_) (fun c53_4 => ?_)
        · refine V.iinc C (n := 97) (j := 2) (v := nI (j + 1 + 1)) (lv' := [(0, .ref (z 0)), (1, .ref (a 0)), (2, .int (nI (j + 1 + 1))), (3, .int (nI (pd (j + 1))))]) [1, 2, 0, 3] d_Q_lay_94 rfl (nI_inc (j + 1) 1) (by decide) rfl rfl ?_
          refine V.goto C (n := 29) d_Q_lay_97 (by decide) ?_
          refine V.lsub C [0, 1, 2] (lv' := [(0, .ref (z 0)), (1, .ref (a 0)), (2, .int (nI (j + 1 + 1)))]) rfl ?_
          exact ih29 (j + 1) (f9) (g9) (c9) ⟨by omega, by rw [hf, layS_f (by omega)], by rw [hg, layS_f (by omega)], by rw [hc, layS_f (by omega)], by omega⟩ (by omega)
        · refine V.sipush C (v := nI 420) (n := 59) d_Q_lay_56 (by decide) rfl ?_
          refine V.iload_n C (n := 60) (j := 3) d_Q_lay_59 rfl rfl rfl ?_
          refine V.irem_n C (n := 61) d_Q_lay_60 (by omega) (by omega) (by omega) rfl ?_
          have hml := Nat.mod_lt 420 (show pd (j + 1) > 0 by omega)
          refine V.ifn_ne C (tgt := 94) (n := 64) (by omega) d_Q_lay_61 (by decide) rfl (fun c61_5 => ?_) (fun c61_5 => ?_)
          · refine V.iinc C (n := 97) (j := 2) (v := nI (j + 1 + 1)) (lv' := [(0, .ref (z 0)), (1, .ref (a 0)), (2, .int (nI (j + 1 + 1))), (3, .int (nI (pd (j + 1))))]) [1, 2, 0, 3] d_Q_lay_94 rfl (nI_inc (j + 1) 1) (by decide) rfl rfl ?_
            refine V.goto C (n := 29) d_Q_lay_97 (by decide) ?_
            refine V.lsub C [0, 1, 2] (lv' := [(0, .ref (z 0)), (1, .ref (a 0)), (2, .int (nI (j + 1 + 1)))]) rfl ?_
            exact ih29 (j + 1) (f9) (g9) (c9) ⟨by omega, by rw [hf, layS_f (by omega)], by rw [hg, layS_f (by omega)], by rw [hc, layS_f (by omega)], by omega⟩ (by omega)
          · refine V.aload_n C (n := 65) (j := 0) d_Q_lay_64 rfl rfl rfl ?_
            refine V.get C (n := 68) (q0 := 0) (k0 := 0) clOk_5 rfl (by decide) rfl fl_Q_9 rfl d_Q_lay_65 rfl ?_
            refine V.aload_n C (n := 69) (j := 0) d_Q_lay_68 rfl rfl rfl ?_
            refine V.get C (n := 72) (q0 := 0) (k0 := 6) clOk_5 rfl (by decide) rfl fl_Q_30 rfl d_Q_lay_69 rfl ?_
            refine V.iload_n C (n := 73) (j := 2) d_Q_lay_72 rfl rfl rfl ?_
            refine V.iastore_n C (n := 74) (q0 := 1) (t0 := 0) (i := c9) (ws' := (SeaW z cI (updN f9 c9 (j + 1)) g9 nx pb br (fun _ => 0) c9 pl bp) ++ (TabW a cI sd pd rk gp of to n)) rfl rfl (by omega) (by decide) rfl d_Q_lay_73 rfl ?_
            refine V.aload_n C (n := 75) (j := 0) d_Q_lay_74 rfl rfl rfl ?_
            refine V.get C (n := 78) (q0 := 0) (k0 := 1) clOk_5 rfl (by decide) rfl fl_Q_15 rfl d_Q_lay_75 rfl ?_
            refine V.aload_n C (n := 79) (j := 0) d_Q_lay_78 rfl rfl rfl ?_
            refine V.get C (n := 82) (q0 := 0) (k0 := 6) clOk_5 rfl (by decide) rfl fl_Q_30 rfl d_Q_lay_79 rfl ?_
            refine V.iload_n C (n := 83) (j := 3) d_Q_lay_82 rfl rfl rfl ?_
            refine V.iastore_n C (n := 84) (q0 := 2) (t0 := 0) (i := c9) (ws' := (SeaW z cI (updN f9 c9 (j + 1)) (updN g9 c9 (pd (j + 1))) nx pb br (fun _ => 0) c9 pl bp) ++ (TabW a cI sd pd rk gp of to n)) rfl rfl (by omega) (by decide) rfl d_Q_lay_83 rfl ?_
            refine V.aload_n C (n := 85) (j := 0) d_Q_lay_84 rfl rfl rfl ?_
            refine V.dup C (n := 86) d_Q_lay_85 rfl rfl ?_
            refine V.get C (n := 89) (q0 := 0) (k0 := 6) clOk_5 rfl (by decide) rfl fl_Q_30 rfl d_Q_lay_86 rfl ?_
            refine V.iconst C (v := nI 1) (n := 90) d_Q_lay_89 (by decide) rfl ?_
            refine V.iadd_n C (n := 91) d_Q_lay_90 rfl ?_
            refine V.put C (n := 94) (q0 := 0) (k0 := 6) (ws' := (SeaW z cI (updN f9 c9 (j + 1)) (updN g9 c9 (pd (j + 1))) nx pb br (fun _ => 0) (c9 + 1) pl bp) ++ (TabW a cI sd pd rk gp of to n)) clOk_5 rfl (by decide) rfl rfl fl_Q_30 rfl rfl (of_decide_eq_true rfl) rfl d_Q_lay_91 rfl ?_
            refine V.iinc C (n := 97) (j := 2) (v := nI (j + 1 + 1)) (lv' := [(0, .ref (z 0)), (1, .ref (a 0)), (2, .int (nI (j + 1 + 1))), (3, .int (nI (pd (j + 1))))]) [1, 2, 0, 3] d_Q_lay_94 rfl (nI_inc (j + 1) 1) (by decide) rfl rfl ?_
            refine V.goto C (n := 29) d_Q_lay_97 (by decide) ?_
            refine V.lsub C [0, 1, 2] (lv' := [(0, .ref (z 0)), (1, .ref (a 0)), (2, .int (nI (j + 1 + 1)))]) rfl ?_
            exact ih29 (j + 1) (updN f9 c9 (j + 1)) (updN g9 c9 (pd (j + 1))) (c9 + 1) (LAYN hi hf hg hc hcj (by omega) (by omega)) (by omega)
  · refine V.aload_n C (n := 10) (j := 0) d_Q_lay_9 rfl rfl rfl ?_
    refine V.get C (n := 13) (q0 := 0) (k0 := 5) clOk_5 rfl (by decide) rfl fl_Q_27 rfl d_Q_lay_10 rfl ?_
    refine V.iload_n C (n := 14) (j := 2) d_Q_lay_13 rfl rfl rfl ?_
    refine V.iconst C (v := nI 0) (n := 15) d_Q_lay_14 (by decide) rfl ?_
    refine V.iastore_n C (n := 16) (q0 := 6) (t0 := 0) (i := j) (ws' := (SeaW z cI fr sr nx pb br (updN b j 0) ps pl bp) ++ (TabW a cI sd pd rk gp of to n)) rfl rfl (by omega) (by decide) rfl d_Q_lay_15 rfl ?_
    refine V.iinc C (n := 19) (j := 2) (v := nI (j + 1)) (lv' := [(0, .ref (z 0)), (1, .ref (a 0)), (2, .int (nI (j + 1)))]) [1, 2, 0] d_Q_lay_16 rfl (nI_inc (j) 1) (by decide) rfl rfl ?_
    refine V.goto C (n := 2) d_Q_lay_19 (by decide) ?_
    exact ih2 (j + 1) (updN b j 0) ⟨by omega, by rw [hb]; exact zer_s bg j⟩ (by omega)
set_option maxHeartbeats 4000000 in
set_option maxRecDepth 100000 in
theorem c_Q_begin (l : Launch) (D : va_G) (cI cC : ClassId) (E : Nat → Nat) (z a : Nat → Nat) (fr sr nx pb br bg : Nat → Nat) (ps : Nat) (pl : Int) (bp : Nat) (sd pd rk gp of to : Nat → Nat) (n : Nat) (hT : TabOK sd pd rk gp of to n) (hz : ∀ u, 420 ≤ u → bg u = 0) : CV l D (TY cI cC E) m_Q_begin (rmD 2) [.ref (z 0), .ref (a 0)] ((SeaW z cI fr sr nx pb br bg ps pl bp) ++ (TabW a cI sd pd rk gp of to n)) ((SeaW z cI ((layS pd fr sr n).1) ((layS pd fr sr n).2.1) (begN (layS pd fr sr n).2.2 nx) (begN (layS pd fr sr n).2.2 pb) br (fun _ => 0) ((layS pd fr sr n).2.2) (begL (layS pd fr sr n).2.2) 41) ++ (TabW a cI sd pd rk gp of to n)) := by
  obtain ⟨hn, hsd, hpd, hrk, hgp, hof, hto⟩ := id hT
  have hle := layS_le pd fr sr n
  refine CN.of (by decide +kernel) (of_decide_eq_true rfl) ?_
  intro p e s m args below meth c C hr hin
  refine V.aload_n C (n := 1) (j := 0) d_Q_begin_0 rfl rfl rfl ?_
  refine V.aload_n C (n := 2) (j := 1) d_Q_begin_1 rfl rfl rfl ?_
  refine V.callV_v C (n := 5) (ws2 := fun _ => (SeaW z cI ((layS pd fr sr n).1) ((layS pd fr sr n).2.1) nx pb br (fun _ => 0) ((layS pd fr sr n).2.2) pl bp) ++ (TabW a cI sd pd rk gp of to n)) (c_Q_lay l D cI cC E (z) (a) (fr) (sr) (nx) (pb) (br) (bg) (ps) (pl) (bp) (sd) (pd) (rk) (gp) (of) (to) (n) (by first | assumption | omega) (by first | assumption | omega)) cw_Q_40 [0, 1, 2, 3, 4, 5, 6, 7, 8, 9, 10, 11, 12, 13] [] [0, 1, 2, 3, 4, 5, 6, 7, 8, 9, 10, 11, 12, 13] (qr := 0) rfl rfl rfl (of_decide_eq_true rfl) rfl (of_decide_eq_true rfl) rfl (of_decide_eq_true rfl) (fun _ => rfl) (fun _ => of_decide_eq_true rfl) rfl ⟨rfl, rfl⟩ ⟨by decide, by decide⟩ ⟨by decide, by decide⟩ rfl rfl (of_decide_eq_true rfl) d_Q_begin_2 rfl (fun _ _ => ?_)
  refine V.aload_n C (n := 6) (j := 0) d_Q_begin_5 rfl rfl rfl ?_
  refine V.bipush C (v := nI 41) (n := 8) d_Q_begin_6 (by decide) rfl ?_
  refine V.put C (n := 11) (q0 := 0) (k0 := 8) (ws' := (SeaW z cI ((layS pd fr sr n).1) ((layS pd fr sr n).2.1) nx pb br (fun _ => 0) ((layS pd fr sr n).2.2) pl 41) ++ (TabW a cI sd pd rk gp of to n)) clOk_5 rfl (by decide) rfl rfl fl_Q_37 rfl rfl (of_decide_eq_true rfl) rfl d_Q_begin_8 rfl ?_
  refine V.aload_n C (n := 12) (j := 0) d_Q_begin_11 rfl rfl rfl ?_
  refine V.iconst C (v := iI (-1)) (n := 13) d_Q_begin_12 (by decide) rfl ?_
  refine V.put C (n := 16) (q0 := 0) (k0 := 7) (ws' := (SeaW z cI ((layS pd fr sr n).1) ((layS pd fr sr n).2.1) nx pb br (fun _ => 0) ((layS pd fr sr n).2.2) (-1) 41) ++ (TabW a cI sd pd rk gp of to n)) clOk_5 rfl (by decide) rfl rfl fl_Q_34 rfl rfl (of_decide_eq_true rfl) rfl d_Q_begin_13 rfl ?_
  refine V.aload_n C (n := 17) (j := 0) d_Q_begin_16 rfl rfl rfl ?_
  refine V.get C (n := 20) (q0 := 0) (k0 := 6) clOk_5 rfl (by decide) rfl fl_Q_30 rfl d_Q_begin_17 rfl ?_
  refine V.ifn_le C (tgt := 29) (n := 23) (by omega) d_Q_begin_20 (by decide) rfl (fun c20_1 => ?_) (fun c20_1 => ?_)
  · exact V.vret C hr d_Q_begin_29 () (trivial) (by first | rw [begL, begN, begN, if_pos (by omega), if_pos (by omega), if_pos (by omega)]; try rfl | rw [begL, begN, begN, if_neg (by omega), if_neg (by omega), if_neg (by omega)])
  · refine V.aload_n C (n := 24) (j := 0) d_Q_begin_23 rfl rfl rfl ?_
    refine V.iconst C (v := nI 0) (n := 25) d_Q_begin_24 (by decide) rfl ?_
    refine V.iconst C (v := nI 0) (n := 26) d_Q_begin_25 (by decide) rfl ?_
    refine V.callV_v C (n := 29) (ws2 := fun _ => (SeaW z cI ((layS pd fr sr n).1) ((layS pd fr sr n).2.1) (updN nx 0 0) (updN pb 0 0) br (fun _ => 0) ((layS pd fr sr n).2.2) (((0 : Nat) : Int)) 41) ++ (TabW a cI sd pd rk gp of to n)) (c_Q_enter l D cI cC E (z) ((layS pd fr sr n).1) ((layS pd fr sr n).2.1) (nx) (pb) (br) (fun _ => 0) ((layS pd fr sr n).2.2) (-1) (41) (0) (0) (by first | assumption | omega)) cw_Q_44 [0, 1, 2, 3, 4, 5, 6] [7, 8, 9, 10, 11, 12, 13] [7, 8, 9, 10, 11, 12, 13, 0, 1, 2, 3, 4, 5, 6] (qr := 0) rfl rfl rfl (of_decide_eq_true rfl) rfl (of_decide_eq_true rfl) rfl (of_decide_eq_true rfl) (fun _ => rfl) (fun _ => of_decide_eq_true rfl) rfl ⟨rfl, rfl⟩ ⟨by decide, by decide⟩ ⟨by decide, by decide⟩ rfl rfl (of_decide_eq_true rfl) d_Q_begin_26 rfl (fun _ _ => ?_)
    exact V.vret C hr d_Q_begin_29 () (trivial) (by first | rw [begL, begN, begN, if_pos (by omega), if_pos (by omega), if_pos (by omega)]; try rfl | rw [begL, begN, begN, if_neg (by omega), if_neg (by omega), if_neg (by omega)])
set_option maxHeartbeats 4000000 in
set_option maxRecDepth 100000 in
theorem c_Q_giveBestRowTo_no (l : Launch) (D : va_G) (cI cC : ClassId) (E : Nat → Nat) (z a : Nat → Nat) (fr sr nx pb br bg : Nat → Nat) (ps : Nat) (pl : Int) (bp : Nat) (sd pd rk gp of to : Nat → Nat) (n : Nat) (hT : TabOK sd pd rk gp of to n) (hps : ps ≤ 40) (hfr : ∀ j, fr j ≤ 40) (hbr : ∀ j, br j ≤ 60) (hbp : 40 < bp ∧ bp ≤ 41) : CV l D (TY cI cC E) m_Q_giveBestRowTo (rmD 1) [.ref (z 0), .ref (a 0)] ((SeaW z cI fr sr nx pb br bg ps pl bp) ++ (TabW a cI sd pd rk gp of to n)) ((SeaW z cI fr sr nx pb br bg ps pl bp) ++ (TabW a cI sd pd rk gp of to n)) := by
  refine CN.of (by decide +kernel) (of_decide_eq_true rfl) ?_
  intro p e s m args below meth c C hr hin
  refine V.aload_n C (n := 1) (j := 0) d_Q_giveBestRowTo_0 rfl rfl rfl ?_
  refine V.get C (n := 4) (q0 := 0) (k0 := 8) clOk_5 rfl (by decide) rfl fl_Q_37 rfl d_Q_giveBestRowTo_1 rfl ?_
  refine V.bipush C (v := nI 40) (n := 6) d_Q_giveBestRowTo_4 (by decide) rfl ?_
  refine V.icmpn_le C (tgt := 10) (n := 9) (by omega) (by omega) d_Q_giveBestRowTo_6 (by decide) rfl (fun c6_1 => ?_) (fun c6_1 => ?_)
  · exfalso; omega
  · exact V.vret C hr d_Q_giveBestRowTo_9 () (trivial) (rfl)
set_option maxHeartbeats 4000000 in
set_option maxRecDepth 100000 in
theorem c_Q_giveBestRowTo_yes (l : Launch) (D : va_G) (cI cC : ClassId) (E : Nat → Nat) (z a : Nat → Nat) (fr sr nx pb br bg : Nat → Nat) (ps : Nat) (pl : Int) (bp : Nat) (sd pd rk gp of to : Nat → Nat) (n : Nat) (hT : TabOK sd pd rk gp of to n) (hps : ps ≤ 40) (hfr : ∀ j, fr j ≤ 40) (hbr : ∀ j, br j ≤ 60) (hbp : bp ≤ 40) : CV l D (TY cI cC E) m_Q_giveBestRowTo (rmD 1) [.ref (z 0), .ref (a 0)] ((SeaW z cI fr sr nx pb br bg ps pl bp) ++ (TabW a cI sd pd rk gp of to n)) ((SeaW z cI fr sr nx pb br bg ps pl bp) ++ (TabW a cI sd pd rk gp (givR fr br of ps) to n)) := by
  obtain ⟨hn, hsd, hpd, hrk, hgp, hof, hto⟩ := id hT
  refine CN.of (by decide +kernel) (of_decide_eq_true rfl) ?_
  intro p e s m args below meth c C hr hin
  refine V.aload_n C (n := 1) (j := 0) d_Q_giveBestRowTo_0 rfl rfl rfl ?_
  refine V.get C (n := 4) (q0 := 0) (k0 := 8) clOk_5 rfl (by decide) rfl fl_Q_37 rfl d_Q_giveBestRowTo_1 rfl ?_
  refine V.bipush C (v := nI 40) (n := 6) d_Q_giveBestRowTo_4 (by decide) rfl ?_
  refine V.icmpn_le C (tgt := 10) (n := 9) (by omega) (by omega) d_Q_giveBestRowTo_6 (by decide) rfl (fun c6_1 => ?_) (fun c6_1 => ?_)
  · refine V.iconst C (v := nI 0) (n := 11) d_Q_giveBestRowTo_10 (by decide) rfl ?_
    refine V.istore_n C (n := 12) (lv' := [(0, .ref (z 0)), (1, .ref (a 0)), (2, .int (nI 0))]) [1, 2, 0] d_Q_giveBestRowTo_11 rfl (by decide) rfl rfl ?_
    refine V.ind2 C (fun (j : Nat) (o9 : Nat → Nat) => (SeaW z cI fr sr nx pb br bg ps pl bp) ++ (TabW a cI sd pd rk gp o9 to n)) (fun (j : Nat) (o9 : Nat → Nat) => [(0, .ref (z 0)), (1, .ref (a 0)), (2, .int (nI j))]) (fun (j : Nat) (o9 : Nat → Nat) => (j ≤ ps) ∧ (o9 = givR fr br of j)) (fun (j : Nat) (o9 : Nat → Nat) => ps - j) (0) (of) ⟨by omega, rfl⟩ rfl rfl ?_
    rintro j o9 ⟨hj, ho⟩ ih12
    try dsimp only
    refine V.iload_n C (n := 13) (j := 2) d_Q_giveBestRowTo_12 rfl rfl rfl ?_
    refine V.aload_n C (n := 14) (j := 0) d_Q_giveBestRowTo_13 rfl rfl rfl ?_
    refine V.get C (n := 17) (q0 := 0) (k0 := 6) clOk_5 rfl (by decide) rfl fl_Q_30 rfl d_Q_giveBestRowTo_14 rfl ?_
    refine V.icmpn_ge C (tgt := 42) (n := 20) (by omega) (by omega) d_Q_giveBestRowTo_17 (by decide) rfl (fun c17_2 => ?_) (fun c17_2 => ?_)
    · exact V.vret C hr d_Q_giveBestRowTo_42 () (trivial) (by rw [ho, show j = ps by omega])
    · refine V.aload_n C (n := 21) (j := 1) d_Q_giveBestRowTo_20 rfl rfl rfl ?_
      refine V.aload_n C (n := 22) (j := 0) d_Q_giveBestRowTo_21 rfl rfl rfl ?_
      refine V.get C (n := 25) (q0 := 0) (k0 := 0) clOk_5 rfl (by decide) rfl fl_Q_9 rfl d_Q_giveBestRowTo_22 rfl ?_
      refine V.iload_n C (n := 26) (j := 2) d_Q_giveBestRowTo_25 rfl rfl rfl ?_
      refine V.iaload_n C (n := 27) (q0 := 1) (t0 := 0) (i := j) rfl rfl (by omega) (by decide) d_Q_giveBestRowTo_26 rfl ?_
      have b_1 := hfr (j)
      refine V.aload_n C (n := 28) (j := 0) d_Q_giveBestRowTo_27 rfl rfl rfl ?_
      refine V.get C (n := 31) (q0 := 0) (k0 := 4) clOk_5 rfl (by decide) rfl fl_Q_24 rfl d_Q_giveBestRowTo_28 rfl ?_
      refine V.iload_n C (n := 32) (j := 2) d_Q_giveBestRowTo_31 rfl rfl rfl ?_
      refine V.iaload_n C (n := 33) (q0 := 5) (t0 := 0) (i := j) rfl rfl (by omega) (by decide) d_Q_giveBestRowTo_32 rfl ?_
      have b_2 := hbr (j)
      refine V.callV_v C (n := 36) (ws2 := fun _ => (SeaW z cI fr sr nx pb br bg ps pl bp) ++ (TabW a cI sd pd rk gp (updN o9 (fr j) (br j)) to n)) (c_T_setOffset l D cI cC E (a) (sd) (pd) (rk) (gp) (o9) (to) (n) (fr j) (br j) (TabOK_of hT (by rw [ho]; exact givR_le hof hbr j)) (by first | assumption | omega) (by first | assumption | omega)) cw_Q_67 [7, 8, 9, 10, 11, 12, 13] [0, 1, 2, 3, 4, 5, 6] [0, 1, 2, 3, 4, 5, 6, 7, 8, 9, 10, 11, 12, 13] (qr := 0) rfl rfl rfl (of_decide_eq_true rfl) rfl (of_decide_eq_true rfl) rfl (of_decide_eq_true rfl) (fun _ => rfl) (fun _ => of_decide_eq_true rfl) rfl ⟨rfl, rfl⟩ ⟨by decide, by decide⟩ ⟨by decide, by decide⟩ rfl rfl (of_decide_eq_true rfl) d_Q_giveBestRowTo_33 rfl (fun _ _ => ?_)
      refine V.iinc C (n := 39) (j := 2) (v := nI (j + 1)) (lv' := [(0, .ref (z 0)), (1, .ref (a 0)), (2, .int (nI (j + 1)))]) [1, 2, 0] d_Q_giveBestRowTo_36 rfl (nI_inc (j) 1) (by decide) rfl rfl ?_
      refine V.goto C (n := 12) d_Q_giveBestRowTo_39 (by decide) ?_
      exact ih12 (j + 1) (updN o9 (fr j) (br j)) ⟨by omega, by rw [ho]; try rfl⟩ (by omega)
  · exfalso; omega
set_option maxHeartbeats 4000000 in
set_option maxRecDepth 100000 in
theorem c_Q_peakOf (l : Launch) (D : va_G) (cI cC : ClassId) (E : Nat → Nat) (z a : Nat → Nat) (fr sr nx pb br bg : Nat → Nat) (ps : Nat) (pl : Int) (bp : Nat) (sd pd rk gp of to : Nat → Nat) (n : Nat) (hT : TabOK sd pd rk gp of to n) (hz : ∀ u, 420 ≤ u → bg u = 0) (hfr : ∀ j, fr j ≤ 40) (hsr : ∀ j, sr j ≤ 60) : CI l D (TY cI cC E) m_Q_peakOf (rmD 2) [.ref (z 0), .ref (a 0)] ((SeaW z cI fr sr nx pb br bg ps pl bp) ++ (TabW a cI sd pd rk gp of to n)) (nI (pkS (layS pd fr sr n).2.1 (fun q => of ((layS pd fr sr n).1 q)) (layS pd fr sr n).2.2)) ((SeaW z cI ((layS pd fr sr n).1) ((layS pd fr sr n).2.1) nx pb br (BG (layS pd fr sr n).2.1 (fun q => of ((layS pd fr sr n).1 q)) (layS pd fr sr n).2.2) ((layS pd fr sr n).2.2) pl bp) ++ (TabW a cI sd pd rk gp of to n)) := by
  obtain ⟨hn, hsd, hpd, hrk, hgp, hof, hto⟩ := id hT
  have hle := layS_le pd fr sr n
  have hfr9 := layS_fr (pd := pd) (sr := sr) hfr hn
  have hsr9 := layS_sr (fr := fr) hpd hsr n
  refine CI.of (by decide +kernel) (of_decide_eq_true rfl) ?_
  intro p e s m args below meth c C hr
  refine V.aload_n C (n := 1) (j := 0) d_Q_peakOf_0 rfl rfl rfl ?_
  refine V.aload_n C (n := 2) (j := 1) d_Q_peakOf_1 rfl rfl rfl ?_
  refine V.callV_v C (n := 5) (ws2 := fun _ => (SeaW z cI ((layS pd fr sr n).1) ((layS pd fr sr n).2.1) nx pb br (fun _ => 0) ((layS pd fr sr n).2.2) pl bp) ++ (TabW a cI sd pd rk gp of to n)) (c_Q_lay l D cI cC E (z) (a) (fr) (sr) (nx) (pb) (br) (bg) (ps) (pl) (bp) (sd) (pd) (rk) (gp) (of) (to) (n) (by first | assumption | omega) (by first | assumption | omega)) cw_Q_40 [0, 1, 2, 3, 4, 5, 6, 7, 8, 9, 10, 11, 12, 13] [] [0, 1, 2, 3, 4, 5, 6, 7, 8, 9, 10, 11, 12, 13] (qr := 0) rfl rfl rfl (of_decide_eq_true rfl) rfl (of_decide_eq_true rfl) rfl (of_decide_eq_true rfl) (fun _ => rfl) (fun _ => of_decide_eq_true rfl) rfl ⟨rfl, rfl⟩ ⟨by decide, by decide⟩ ⟨by decide, by decide⟩ rfl rfl (of_decide_eq_true rfl) d_Q_peakOf_2 rfl (fun _ _ => ?_)
  refine V.iconst C (v := nI 0) (n := 6) d_Q_peakOf_5 (by decide) rfl ?_
  refine V.istore_n C (n := 7) (lv' := [(0, .ref (z 0)), (1, .ref (a 0)), (2, .int (nI 0))]) [1, 2, 0] d_Q_peakOf_6 rfl (by decide) rfl rfl ?_
  refine V.iconst C (v := nI 0) (n := 8) d_Q_peakOf_7 (by decide) rfl ?_
  refine V.istore_n C (n := 9) (lv' := [(0, .ref (z 0)), (1, .ref (a 0)), (2, .int (nI 0)), (3, .int (nI 0))]) [1, 2, 3, 0] d_Q_peakOf_8 rfl (by decide) rfl rfl ?_
  refine V.lsub C [0, 1, 2, 3] (lv' := [(0, .ref (z 0)), (1, .ref (a 0)), (2, .int (nI 0)), (3, .int (nI 0))]) rfl ?_
  refine V.ind3 C (fun (i : Nat) (pk : Nat) (b : Nat → Nat) => (SeaW z cI ((layS pd fr sr n).1) ((layS pd fr sr n).2.1) nx pb br b ((layS pd fr sr n).2.2) pl bp) ++ (TabW a cI sd pd rk gp of to n)) (fun (i : Nat) (pk : Nat) (b : Nat → Nat) => [(0, .ref (z 0)), (1, .ref (a 0)), (2, .int (nI pk)), (3, .int (nI i))]) (fun (i : Nat) (pk : Nat) (b : Nat → Nat) => (i ≤ (layS pd fr sr n).2.2) ∧ (pk = pkS (layS pd fr sr n).2.1 (fun q => of ((layS pd fr sr n).1 q)) i) ∧ (b = BG (layS pd fr sr n).2.1 (fun q => of ((layS pd fr sr n).1 q)) i) ∧ (pk ≤ i)) (fun (i : Nat) (pk : Nat) (b : Nat → Nat) => (layS pd fr sr n).2.2 - i) (0) (0) (fun _ => 0) ⟨by omega, rfl, rfl, by omega⟩ rfl rfl ?_
  rintro i pk b ⟨hi, hp, hb, hpi⟩ ih9
  try dsimp only
  have hB9 : SeaB (layS pd fr sr n).2.1 b := by rw [hb]; exact ⟨hsr9, fun u => Nat.le_trans (BG_le _ _ _ u) (by omega)⟩
  refine V.iload_n C (n := 10) (j := 3) d_Q_peakOf_9 rfl rfl rfl ?_
  refine V.aload_n C (n := 11) (j := 0) d_Q_peakOf_10 rfl rfl rfl ?_
  refine V.get C (n := 14) (q0 := 0) (k0 := 6) clOk_5 rfl (by decide) rfl fl_Q_30 rfl d_Q_peakOf_11 rfl ?_
  refine V.icmpn_ge C (tgt := 55) (n := 17) (by omega) (by omega) d_Q_peakOf_14 (by decide) rfl (fun c14_1 => ?_) (fun c14_1 => ?_)
  · refine V.iload_n C (n := 56) (j := 2) d_Q_peakOf_55 rfl rfl rfl ?_
    exact V.iret C hr d_Q_peakOf_56 (by rw [hp, show i = (layS pd fr sr n).2.2 by omega]) (by rw [hb, show i = (layS pd fr sr n).2.2 by omega])
  · refine V.aload_n C (n := 18) (j := 1) d_Q_peakOf_17 rfl rfl rfl ?_
    refine V.aload_n C (n := 19) (j := 0) d_Q_peakOf_18 rfl rfl rfl ?_
    refine V.get C (n := 22) (q0 := 0) (k0 := 0) clOk_5 rfl (by decide) rfl fl_Q_9 rfl d_Q_peakOf_19 rfl ?_
    refine V.iload_n C (n := 23) (j := 3) d_Q_peakOf_22 rfl rfl rfl ?_
    refine V.iaload_n C (n := 24) (q0 := 1) (t0 := 0) (i := i) rfl rfl (by omega) (by decide) d_Q_peakOf_23 rfl ?_
    have b_1 := hfr9 (i)
    refine V.callV_i C (n := 27) (ws' := (SeaW z cI ((layS pd fr sr n).1) ((layS pd fr sr n).2.1) nx pb br b ((layS pd fr sr n).2.2) pl bp) ++ (TabW a cI sd pd rk gp of to n)) (c_T_offsetOf l D cI cC E (a) (sd) (pd) (rk) (gp) (of) (to) (n) (((layS pd fr sr n).1) i) (by first | assumption | omega) (by first | assumption | omega)) cw_Q_72 [7, 8, 9, 10, 11, 12, 13] [0, 1, 2, 3, 4, 5, 6] [0, 1, 2, 3, 4, 5, 6, 7, 8, 9, 10, 11, 12, 13] (qr := 0) rfl rfl rfl (of_decide_eq_true rfl) rfl (of_decide_eq_true rfl) rfl (of_decide_eq_true rfl) rfl (of_decide_eq_true rfl) rfl ⟨rfl, rfl⟩ ⟨by decide, by decide⟩ ⟨by decide, by decide⟩ rfl rfl (of_decide_eq_true rfl) d_Q_peakOf_24 rfl ?_
    have b_2 := hof ((((layS pd fr sr n).1) i))
    refine V.istore C (n := 29) (lv' := [(0, .ref (z 0)), (1, .ref (a 0)), (2, .int (nI pk)), (3, .int (nI i)), (4, .int (nI (of (((layS pd fr sr n).1) i))))]) [1, 2, 3, 4, 0] d_Q_peakOf_27 (by decide) rfl rfl ?_
    refine V.iload_n C (n := 30) (j := 2) d_Q_peakOf_29 rfl rfl rfl ?_
    refine V.aload_n C (n := 31) (j := 0) d_Q_peakOf_30 rfl rfl rfl ?_
    refine V.iload_n C (n := 32) (j := 3) d_Q_peakOf_31 rfl rfl rfl ?_
    refine V.iload C (n := 34) (j := 4) d_Q_peakOf_32 rfl rfl ?_
    refine V.callV_i C (n := 37) (ws' := (SeaW z cI ((layS pd fr sr n).1) ((layS pd fr sr n).2.1) nx pb br b ((layS pd fr sr n).2.2) pl bp) ++ (TabW a cI sd pd rk gp of to n)) (c_Q_mostBeginsWith l D cI cC E (z) ((layS pd fr sr n).1) ((layS pd fr sr n).2.1) (nx) (pb) (br) (b) ((layS pd fr sr n).2.2) (pl) (bp) (i) (of (((layS pd fr sr n).1) i)) hB9 (by first | assumption | omega) (by first | assumption | omega)) cw_Q_52 [0, 1, 2, 3, 4, 5, 6] [7, 8, 9, 10, 11, 12, 13] [7, 8, 9, 10, 11, 12, 13, 0, 1, 2, 3, 4, 5, 6] (qr := 0) rfl rfl rfl (of_decide_eq_true rfl) rfl (of_decide_eq_true rfl) rfl (of_decide_eq_true rfl) rfl (of_decide_eq_true rfl) rfl ⟨rfl, rfl⟩ ⟨by decide, by decide⟩ ⟨by decide, by decide⟩ rfl rfl (of_decide_eq_true rfl) d_Q_peakOf_34 rfl ?_
    have hmx9 := mxH_le (st := max 1 ((layS pd fr sr n).2.1 i)) (off := of ((layS pd fr sr n).1 i)) (show ∀ u, b u ≤ i by rw [hb]; exact BG_le _ _ _) 420
    refine V.max_n C (n := 40) mm_Q (of_decide_eq_true rfl) (of_decide_eq_true rfl) ⟨Nat.le_refl _, Nat.le_refl _⟩ (by omega) (by omega) d_Q_peakOf_37 rfl ?_
    refine V.istore_n C (n := 41) (lv' := [(0, .ref (z 0)), (1, .ref (a 0)), (2, .int (nI (max (pk) (mxH b (max 1 (((layS pd fr sr n).2.1) i)) (of (((layS pd fr sr n).1) i)) 420)))), (3, .int (nI i)), (4, .int (nI (of (((layS pd fr sr n).1) i))))]) [1, 2, 0, 3, 4] d_Q_peakOf_40 rfl (by decide) rfl rfl ?_
    refine V.aload_n C (n := 42) (j := 0) d_Q_peakOf_41 rfl rfl rfl ?_
    refine V.iload_n C (n := 43) (j := 3) d_Q_peakOf_42 rfl rfl rfl ?_
    refine V.iload C (n := 45) (j := 4) d_Q_peakOf_43 rfl rfl ?_
    refine V.iconst C (v := nI 1) (n := 46) d_Q_peakOf_45 (by decide) rfl ?_
    refine V.callV_v C (n := 49) (ws2 := fun _ => (SeaW z cI ((layS pd fr sr n).1) ((layS pd fr sr n).2.1) nx pb br (addH (max 1 (((layS pd fr sr n).2.1) i)) (of (((layS pd fr sr n).1) i)) b 420) ((layS pd fr sr n).2.2) pl bp) ++ (TabW a cI sd pd rk gp of to n)) (c_Q_addBegins_up l D cI cC E (z) ((layS pd fr sr n).1) ((layS pd fr sr n).2.1) (nx) (pb) (br) (b) ((layS pd fr sr n).2.2) (pl) (bp) (i) (of (((layS pd fr sr n).1) i)) hB9 (by first | assumption | omega) (by first | assumption | omega)) cw_Q_76 [0, 1, 2, 3, 4, 5, 6] [7, 8, 9, 10, 11, 12, 13] [7, 8, 9, 10, 11, 12, 13, 0, 1, 2, 3, 4, 5, 6] (qr := 0) rfl rfl rfl (of_decide_eq_true rfl) rfl (of_decide_eq_true rfl) rfl (of_decide_eq_true rfl) (fun _ => rfl) (fun _ => of_decide_eq_true rfl) rfl ⟨rfl, rfl⟩ ⟨by decide, by decide⟩ ⟨by decide, by decide⟩ rfl rfl (of_decide_eq_true rfl) d_Q_peakOf_46 rfl (fun _ _ => ?_)
    refine V.iinc C (n := 52) (j := 3) (v := nI (i + 1)) (lv' := [(0, .ref (z 0)), (1, .ref (a 0)), (2, .int (nI (max (pk) (mxH b (max 1 (((layS pd fr sr n).2.1) i)) (of (((layS pd fr sr n).1) i)) 420)))), (3, .int (nI (i + 1))), (4, .int (nI (of (((layS pd fr sr n).1) i))))]) [1, 2, 3, 0, 4] d_Q_peakOf_49 rfl (nI_inc (i) 1) (by decide) rfl rfl ?_
    refine V.goto C (n := 9) d_Q_peakOf_52 (by decide) ?_
    refine V.lsub C [0, 1, 2, 3] (lv' := [(0, .ref (z 0)), (1, .ref (a 0)), (2, .int (nI (max (pk) (mxH b (max 1 (((layS pd fr sr n).2.1) i)) (of (((layS pd fr sr n).1) i)) 420)))), (3, .int (nI (i + 1)))]) rfl ?_
    refine V.lsub C [0, 1, 2, 3] (lv' := [(0, .ref (z 0)), (1, .ref (a 0)), (2, .int (nI (max (pk) (mxH b (max 1 (((layS pd fr sr n).2.1) i)) (of (((layS pd fr sr n).1) i)) 420)))), (3, .int (nI (i + 1)))]) rfl ?_
    exact ih9 (i + 1) (max (pk) (mxH b (max 1 (((layS pd fr sr n).2.1) i)) (of (((layS pd fr sr n).1) i)) 420)) (addH (max 1 (((layS pd fr sr n).2.1) i)) (of (((layS pd fr sr n).1) i)) b 420) ⟨by omega, by rw [hp, hb]; try rfl, by rw [hb]; try rfl, by omega⟩ (by omega)
end
section
def SeaI (sr : Nat → Nat) (ps : Nat) (T : SeS) : Prop := SeaN sr T.1 T.2.1 T.2.2.2.2 ∧ (∀ j, T.2.2.1 j ≤ 60) ∧ -1 ≤ T.2.2.2.1 ∧ T.2.2.2.1 < (ps : Int) ∧ (∀ j : Nat, (j : Int) < T.2.2.2.1 → 1 ≤ T.1 j) ∧ (0 ≤ T.2.2.2.1 → T.1 T.2.2.2.1.toNat < sr T.2.2.2.1.toNat)
theorem lvP_open {sr nx pb : Nat → Nat} {bp : Nat} (p : Nat) (h : 0 ≤ lvP sr nx pb bp p) : nx (lvP sr nx pb bp p).toNat < sr (lvP sr nx pb bp p).toNat := by
  induction p with
  | zero => rw [lvP] at h; exact absurd h (by decide)
  | succ p ih =>
    by_cases q : sr p ≤ nx p ∨ bp ≤ pb p
    · rw [lvP_t q] at h ⊢
      exact ih h
    · rw [lvP_f q]
      show nx p < sr p
      omega
theorem sPk_le {sr nx pb : Nat → Nat} {bp k : Nat} (h : SeaN sr nx pb bp) (hk : k ≤ 40) : sPk sr nx pb k ≤ 41 := by
  have h1 := h.2.2.1 k
  have h2 := mxH_le (st := max 1 (sr k)) (off := nx k) (fun u => Nat.le_trans (BG_le sr (nx1 nx) k u) hk) 420
  unfold sPk
  omega
theorem keepR_le {nx br : Nat → Nat} {j : Nat} (h1 : ∀ i, nx i ≤ 60) (h2 : ∀ i, br i ≤ 60) : ∀ i, keepR nx br j i ≤ 60 := by
  intro i
  have := h1 i
  have := h2 i
  unfold keepR
  split <;> omega
theorem stepS_I {sr nx pb br : Nat → Nat} {ps k bp : Nat} (hps : ps ≤ 40) (hI : SeaI sr ps (nx, pb, br, (k : Int), bp)) : SeaI sr ps (stepS sr ps k nx pb br bp) := by
  obtain ⟨hN, hbr, h1, h2, h3, h4⟩ := hI
  have hN' : SeaN sr nx pb bp := hN
  have hbr' : ∀ j, br j ≤ 60 := hbr
  have h2' : (k : Int) < (ps : Int) := h2
  have h3' : ∀ j : Nat, (j : Int) < (k : Int) → 1 ≤ nx j := h3
  have h4' : nx k < sr k := h4 (Int.natCast_nonneg k)
  have hsk := hN'.1 k
  have hk : nx k < 60 := by omega
  have hx := sPk_le (k := k) hN' (by omega)
  have hp1 := sN1_pos (nx := nx) (k := k) (fun j hj => h3' j (by omega))
  have hp2 := sN2_pos (nx := nx) (k := k) (fun j hj => h3' j (by omega))
  by_cases c : sPk sr nx pb k < bp
  · by_cases d : k + 1 < ps
    · rw [stepS_d rfl c d]
      have r := lvP_rng sr (sN2 nx k) (updN pb (k + 1) (sPk sr nx pb k)) bp (k + 1 + 1)
      exact ⟨SeaN_2 hN' hk hx, hbr', r.1, by dsimp only; omega, fun j hj => hp2 j (by have hj' : (j : Int) < lvP sr (sN2 nx k) (updN pb (k + 1) (sPk sr nx pb k)) bp (k + 1 + 1) := hj; omega), lvP_open _⟩
    · rw [stepS_l rfl c d]
      have r := lvP_rng sr (sN1 nx k) pb (sPk sr nx pb k) (k + 1)
      exact ⟨SeaN_1 hN' hk hx, keepR_le (sN1_le hN'.2.1 hk) hbr', r.1, by dsimp only; omega, fun j hj => hp1 j (by have hj' : (j : Int) < lvP sr (sN1 nx k) pb (sPk sr nx pb k) (k + 1) := hj; omega), lvP_open _⟩
  · rw [stepS_n rfl (by omega)]
    have r := lvP_rng sr (sN1 nx k) pb bp (k + 1)
    exact ⟨SeaN_1 hN' hk hN'.2.2.2, hbr', r.1, by dsimp only; omega, fun j hj => hp1 j (by have hj' : (j : Int) < lvP sr (sN1 nx k) pb bp (k + 1) := hj; omega), lvP_open _⟩
def stO (sr : Nat → Nat) (ps : Nat) (T : SeS) : SeS := if 0 ≤ T.2.2.2.1 then stepS sr ps T.2.2.2.1.toNat T.1 T.2.1 T.2.2.1 T.2.2.2.2 else T
def itO (sr : Nat → Nat) (ps : Nat) (T : SeS) : Nat → SeS
  | 0 => T
  | m + 1 => stO sr ps (itO sr ps T m)
theorem itO_s {sr : Nat → Nat} {ps m k : Nat} {T0 T : SeS} (h : T = itO sr ps T0 m) (hk : T.2.2.2.1 = (k : Int)) : stepS sr ps k T.1 T.2.1 T.2.2.1 T.2.2.2.2 = itO sr ps T0 (m + 1) := by
  show _ = stO sr ps (itO sr ps T0 m)
  rw [← h, stO, if_pos (by omega), hk]
  rfl
theorem itO_end {sr : Nat → Nat} {ps m : Nat} {T0 : SeS} (h : (itO sr ps T0 m).2.2.2.1 < 0) (d : Nat) : itO sr ps T0 (m + d) = itO sr ps T0 m := by
  induction d with
  | zero => rfl
  | succ d ih =>
    show stO sr ps (itO sr ps T0 (m + d)) = _
    rw [ih, stO, if_neg (by omega)]
theorem layS_pos {pd fr sr : Nat → Nat} (m : Nat) : ∀ j, j < (layS pd fr sr m).2.2 → 1 ≤ (layS pd fr sr m).2.1 j := by
  induction m with
  | zero => intro j hj; exact absurd hj (Nat.not_lt_zero _)
  | succ m ih =>
    by_cases h : 0 < pd (m + 1) ∧ 420 % pd (m + 1) = 0
    · rw [layS_t h]
      intro j hj
      show 1 ≤ updN (layS pd fr sr m).2.1 (layS pd fr sr m).2.2 (pd (m + 1)) j
      by_cases e : j = (layS pd fr sr m).2.2
      · rw [e, updN_s]; omega
      · rw [updN_n e]
        have hj' : j < (layS pd fr sr m).2.2 + 1 := hj
        exact ih j (by omega)
    · rw [layS_f h]; exact ih
def SeaOK (fr sr nx pb br bg : Nat → Nat) : Prop := (∀ j, fr j ≤ 40) ∧ (∀ j, sr j ≤ 60) ∧ (∀ j, nx j ≤ 60) ∧ (∀ j, pb j ≤ 41) ∧ (∀ j, br j ≤ 60) ∧ ∀ u, 420 ≤ u → bg u = 0
theorem BG_z (sr o : Nat → Nat) (p : Nat) : ∀ u, 420 ≤ u → BG sr o p u = 0 := by
  induction p with
  | zero => intro u _; rfl
  | succ p ih =>
    intro u hu
    show addH (max 1 (sr p)) (o p) (BG sr o p) 420 u = 0
    unfold addH
    rw [if_neg (by omega)]
    exact ih u hu
theorem begN_le {ps B : Nat} {f : Nat → Nat} (h : ∀ j, f j ≤ B) : ∀ j, begN ps f j ≤ B := by
  unfold begN
  split
  · exact updN_le h (Nat.zero_le _)
  · exact h
def beg0 (pd fr sr nx pb br : Nat → Nat) (n : Nat) : SeS := (begN (layS pd fr sr n).2.2 nx, begN (layS pd fr sr n).2.2 pb, br, begL (layS pd fr sr n).2.2, 41)
theorem beg_I {pd fr sr nx pb br bg : Nat → Nat} {n : Nat} (h : SeaOK fr sr nx pb br bg) (hp : ∀ j, pd j ≤ 60) : SeaI (layS pd fr sr n).2.1 (layS pd fr sr n).2.2 (beg0 pd fr sr nx pb br n) := by
  obtain ⟨h1, h2, h3, h4, h5, h6⟩ := h
  refine ⟨⟨layS_sr hp h2 n, begN_le h3, begN_le h4, Nat.le_refl 41⟩, h5, ?_, ?_, ?_, ?_⟩
  · show -1 ≤ begL _
    unfold begL
    split <;> omega
  · show begL _ < _
    unfold begL
    split <;> omega
  · intro j hj
    have hj' : (j : Int) < begL (layS pd fr sr n).2.2 := hj
    unfold begL at hj'
    split at hj' <;> omega
  · intro hj
    have hj' : 0 ≤ begL (layS pd fr sr n).2.2 := hj
    show begN (layS pd fr sr n).2.2 nx (begL (layS pd fr sr n).2.2).toNat < (layS pd fr sr n).2.1 (begL (layS pd fr sr n).2.2).toNat
    by_cases q : 0 < (layS pd fr sr n).2.2
    · have q2 := layS_pos (pd := pd) (fr := fr) (sr := sr) n 0 q
      unfold begN begL
      rw [if_pos q, if_pos q]
      show updN nx 0 0 0 < (layS pd fr sr n).2.1 0
      rw [updN_s]
      omega
    · unfold begL at hj'
      rw [if_neg q] at hj'
      exact absurd hj' (by decide)
theorem begL_z (ps : Nat) : (begL ps).toNat = 0 := by
  unfold begL
  split <;> rfl
/-- the search after so many steps -/
def offT (pd fr sr nx pb br : Nat → Nat) (n N9 : Nat) : SeS := itO (layS pd fr sr n).2.1 (layS pd fr sr n).2.2 (beg0 pd fr sr nx pb br n) N9
def offO (pd fr sr nx pb br of : Nat → Nat) (n N9 : Nat) : Nat → Nat := if (offT pd fr sr nx pb br n N9).2.2.2.2 ≤ 40 then givR (layS pd fr sr n).1 (offT pd fr sr nx pb br n N9).2.2.1 of (layS pd fr sr n).2.2 else of
def lay2 (pd fr sr : Nat → Nat) (n : Nat) : (Nat → Nat) × (Nat → Nat) × Nat := layS pd (layS pd fr sr n).1 (layS pd fr sr n).2.1 n
end
section
set_option maxHeartbeats 4000000 in
set_option maxRecDepth 100000 in
theorem c_F_offset_bad (l : Launch) (D : va_G) (cI cC : ClassId) (E : Nat → Nat) (o a z : Nat → Nat) (dr sp tx pr : Nat) (ex : Bool) (fr sr nx pb br bg : Nat → Nat) (ps : Nat) (pl : Int) (bp : Nat) (sd pd rk gp of to : Nat → Nat) (n : Nat) (X : Int) (hT : TabOK sd pd rk gp of to n) (hX : -9223372036854775808 ≤ X ∧ X < 9223372036854775808) (hbad : ¬ (0 ≤ X ∧ X ≤ 3000)) : CI l D (TY cI cC E) m_F_offset (rmD 4) [.ref (o 0), .long (jI (X))] ((FtW o (a 0) dr sp tx pr (z 0) ex) ++ (TabW a cI sd pd rk gp of to n) ++ (SeaW z cI fr sr nx pb br bg ps pl bp)) (iI (-2)) ((FtW o (a 0) dr sp tx pr (z 0) ex) ++ (TabW a cI sd pd rk gp of to n) ++ (SeaW z cI fr sr nx pb br bg ps pl bp)) := by
  refine CI.of (by decide +kernel) (of_decide_eq_true rfl) ?_
  intro p e s m args below meth c C hr
  refine V.lload_n C (n := 1) (j := 1) d_F_offset_0 rfl rfl rfl ?_
  refine V.lconst C (v := jI 0) (n := 2) d_F_offset_1 (by decide) rfl ?_
  refine V.lcmp C (n := 3) d_F_offset_2 rfl ?_
  refine V.ifl_lt C (tgt := 14) (n := 6) (jI_toInt (by omega) (by omega)) (jI_toInt (by omega) (by omega)) d_F_offset_3 (by decide) rfl (fun c3_1 => ?_) (fun c3_1 => ?_)
  · refine V.bipush C (v := iI (-2)) (n := 16) d_F_offset_14 (by decide) rfl ?_
    exact V.iret C hr d_F_offset_16 (rfl) (rfl)
  · refine V.lload_n C (n := 7) (j := 1) d_F_offset_6 rfl rfl rfl ?_
    refine V.ldc2 C (n := 10) l2_F_98 d_F_offset_7 rfl ?_
    refine V.lcmp C (n := 11) d_F_offset_10 rfl ?_
    refine V.ifl_le C (tgt := 17) (n := 14) (jI_toInt (by omega) (by omega)) (jI_toInt (by omega) (by omega)) d_F_offset_11 (by decide) rfl (fun c11_2 => ?_) (fun c11_2 => ?_)
    · exfalso; omega
    · refine V.bipush C (v := iI (-2)) (n := 16) d_F_offset_14 (by decide) rfl ?_
      exact V.iret C hr d_F_offset_16 (rfl) (rfl)
set_option maxHeartbeats 4000000 in
set_option maxRecDepth 100000 in
theorem c_F_offset_ok (l : Launch) (D : va_G) (cI cC : ClassId) (E : Nat → Nat) (o a z : Nat → Nat) (dr sp tx pr : Nat) (ex : Bool) (fr sr nx pb br bg : Nat → Nat) (ps : Nat) (pl : Int) (bp : Nat) (sd pd rk gp of to : Nat → Nat) (n : Nat) (N9 : Nat) (hT : TabOK sd pd rk gp of to n) (hS9 : SeaOK fr sr nx pb br bg) (h9 : N9 ≤ 3000) : CI l D (TY cI cC E) m_F_offset (rmD 4) [.ref (o 0), .long (jI (((N9 : Nat) : Int)))] ((FtW o (a 0) dr sp tx pr (z 0) ex) ++ (TabW a cI sd pd rk gp of to n) ++ (SeaW z cI fr sr nx pb br bg ps pl bp)) (nI (pkS (lay2 pd fr sr n).2.1 (fun q => (offO pd fr sr nx pb br of n N9) ((lay2 pd fr sr n).1 q)) (lay2 pd fr sr n).2.2)) ((FtW o (a 0) dr sp tx pr (z 0) ((decide ((offT pd fr sr nx pb br n N9).2.2.2.1 < 0)))) ++ (TabW a cI sd pd rk gp ((offO pd fr sr nx pb br of n N9)) to n) ++ (SeaW z cI ((lay2 pd fr sr n).1) ((lay2 pd fr sr n).2.1) ((offT pd fr sr nx pb br n N9).1) ((offT pd fr sr nx pb br n N9).2.1) ((offT pd fr sr nx pb br n N9).2.2.1) (BG (lay2 pd fr sr n).2.1 (fun q => (offO pd fr sr nx pb br of n N9) ((lay2 pd fr sr n).1 q)) (lay2 pd fr sr n).2.2) ((lay2 pd fr sr n).2.2) ((offT pd fr sr nx pb br n N9).2.2.2.1) ((offT pd fr sr nx pb br n N9).2.2.2.2))) := by
  obtain ⟨hn, hsd, hpd, hrk, hgp, hof, hto⟩ := id hT
  obtain ⟨s1, s2, s3, s4, s5, s6⟩ := id hS9
  have hsr9 := layS_sr (fr := fr) hpd s2 n
  have hfr9 := layS_fr (pd := pd) (sr := sr) s1 hn
  have hle := layS_le pd fr sr n
  refine CI.of (by decide +kernel) (of_decide_eq_true rfl) ?_
  intro p e s m args below meth c C hr
  refine V.lload_n C (n := 1) (j := 1) d_F_offset_0 rfl rfl rfl ?_
  refine V.lconst C (v := jI 0) (n := 2) d_F_offset_1 (by decide) rfl ?_
  refine V.lcmp C (n := 3) d_F_offset_2 rfl ?_
  refine V.ifl_lt C (tgt := 14) (n := 6) (jI_toInt (by omega) (by omega)) (jI_toInt (by omega) (by omega)) d_F_offset_3 (by decide) rfl (fun c3_1 => ?_) (fun c3_1 => ?_)
  · exfalso; omega
  · refine V.lload_n C (n := 7) (j := 1) d_F_offset_6 rfl rfl rfl ?_
    refine V.ldc2 C (n := 10) l2_F_98 d_F_offset_7 rfl ?_
    refine V.lcmp C (n := 11) d_F_offset_10 rfl ?_
    refine V.ifl_le C (tgt := 17) (n := 14) (jI_toInt (by omega) (by omega)) (jI_toInt (by omega) (by omega)) d_F_offset_11 (by decide) rfl (fun c11_2 => ?_) (fun c11_2 => ?_)
    · refine V.aload_n C (n := 18) (j := 0) d_F_offset_17 rfl rfl rfl ?_
      refine V.get C (n := 21) (q0 := 0) (k0 := 5) clOk_0 rfl (by decide) rfl fl_F_45 rfl d_F_offset_18 rfl ?_
      refine V.aload_n C (n := 22) (j := 0) d_F_offset_21 rfl rfl rfl ?_
      refine V.get C (n := 25) (q0 := 0) (k0 := 0) clOk_0 rfl (by decide) rfl fl_F_10 rfl d_F_offset_22 rfl ?_
      refine V.callV_v C (n := 28) (ws2 := fun _ => (FtW o (a 0) dr sp tx pr (z 0) ex) ++ (TabW a cI sd pd rk gp of to n) ++ (SeaW z cI ((layS pd fr sr n).1) ((layS pd fr sr n).2.1) (begN (layS pd fr sr n).2.2 nx) (begN (layS pd fr sr n).2.2 pb) br (fun _ => 0) ((layS pd fr sr n).2.2) (begL (layS pd fr sr n).2.2) 41)) (c_Q_begin l D cI cC E (z) (a) (fr) (sr) (nx) (pb) (br) (bg) (ps) (pl) (bp) (sd) (pd) (rk) (gp) (of) (to) (n) (by first | assumption | omega) s6) cw_F_100 [8, 9, 10, 11, 12, 13, 14, 1, 2, 3, 4, 5, 6, 7] [0] [0, 8, 9, 10, 11, 12, 13, 14, 1, 2, 3, 4, 5, 6, 7] (qr := 0) rfl rfl rfl (of_decide_eq_true rfl) rfl (of_decide_eq_true rfl) rfl (of_decide_eq_true rfl) (fun _ => rfl) (fun _ => of_decide_eq_true rfl) rfl ⟨rfl, rfl⟩ ⟨by decide, by decide⟩ ⟨by decide, by decide⟩ rfl rfl (of_decide_eq_true rfl) d_F_offset_25 rfl (fun _ _ => ?_)
      refine V.wo C (ws' := (FtW o (a 0) dr sp tx pr (z 0) ex) ++ (TabW a cI sd pd rk gp of to n) ++ (SeaW z cI ((layS pd fr sr n).1) ((layS pd fr sr n).2.1) (begN (layS pd fr sr n).2.2 nx) (begN (layS pd fr sr n).2.2 pb) br (BG (layS pd fr sr n).2.1 (nx1 (begN (layS pd fr sr n).2.2 nx)) (begL (layS pd fr sr n).2.2).toNat) ((layS pd fr sr n).2.2) (begL (layS pd fr sr n).2.2) 41)) (by rw [begL_z]; try rfl) ?_
      refine V.lconst C (v := jI 0) (n := 29) d_F_offset_28 (by decide) rfl ?_
      refine V.lstore_n C (n := 30) (lv' := [(0, .ref (o 0)), (1, .long (jI (((N9 : Nat) : Int)))), (3, .long (jI (0)))]) [1, 2, 0] d_F_offset_29 rfl (by decide) rfl rfl ?_
      refine V.ind2 C (fun (m : Nat) (T : SeS) => (FtW o (a 0) dr sp tx pr (z 0) ex) ++ (TabW a cI sd pd rk gp of to n) ++ (SeaW z cI ((layS pd fr sr n).1) ((layS pd fr sr n).2.1) T.1 T.2.1 T.2.2.1 (BG (layS pd fr sr n).2.1 (nx1 T.1) T.2.2.2.1.toNat) ((layS pd fr sr n).2.2) T.2.2.2.1 T.2.2.2.2)) (fun (m : Nat) (T : SeS) => [(0, .ref (o 0)), (1, .long (jI (((N9 : Nat) : Int)))), (3, .long (jI (((m : Nat) : Int))))]) (fun (m : Nat) (T : SeS) => (m ≤ N9) ∧ (T = itO (layS pd fr sr n).2.1 (layS pd fr sr n).2.2 (beg0 pd fr sr nx pb br n) m) ∧ (SeaI (layS pd fr sr n).2.1 (layS pd fr sr n).2.2 T)) (fun (m : Nat) (T : SeS) => N9 - m) (0) (beg0 pd fr sr nx pb br n) ⟨by omega, rfl, beg_I hS9 hpd⟩ rfl rfl ?_
      rintro m T ⟨hm, hT0, hI⟩ ih30
      try dsimp only
      refine V.lload_n C (n := 31) (j := 2) d_F_offset_30 rfl rfl rfl ?_
      refine V.lload_n C (n := 32) (j := 1) d_F_offset_31 rfl rfl rfl ?_
      refine V.lcmp C (n := 33) d_F_offset_32 rfl ?_
      refine V.ifl_ge C (tgt := 60) (n := 36) (jI_toInt (by omega) (by omega)) (jI_toInt (by omega) (by omega)) d_F_offset_33 (by decide) rfl (fun c33_3 => ?_) (fun c33_3 => ?_)
      · have hT9 : T = offT pd fr sr nx pb br n N9 := by rw [hT0, show m = N9 by omega]; try rfl
        have hbp9 : T.2.2.2.2 ≤ 41 := hI.1.2.2.2
        have hbr9 : ∀ j, T.2.2.1 j ≤ 60 := hI.2.1
        have hpl9 : -1 ≤ T.2.2.2.1 ∧ T.2.2.2.1 < (((layS pd fr sr n).2.2 : Nat) : Int) := ⟨hI.2.2.1, hI.2.2.2.1⟩
        by_cases hbp : T.2.2.2.2 ≤ 40
        · refine V.aload_n C (n := 61) (j := 0) d_F_offset_60 rfl rfl rfl ?_
          refine V.get C (n := 64) (q0 := 0) (k0 := 5) clOk_0 rfl (by decide) rfl fl_F_45 rfl d_F_offset_61 rfl ?_
          refine V.aload_n C (n := 65) (j := 0) d_F_offset_64 rfl rfl rfl ?_
          refine V.get C (n := 68) (q0 := 0) (k0 := 0) clOk_0 rfl (by decide) rfl fl_F_10 rfl d_F_offset_65 rfl ?_
          refine V.callV_v C (n := 71) (ws2 := fun _ => (FtW o (a 0) dr sp tx pr (z 0) ex) ++ (TabW a cI sd pd rk gp (givR ((layS pd fr sr n).1) T.2.2.1 of ((layS pd fr sr n).2.2)) to n) ++ (SeaW z cI ((layS pd fr sr n).1) ((layS pd fr sr n).2.1) T.1 T.2.1 T.2.2.1 (BG (layS pd fr sr n).2.1 (nx1 T.1) T.2.2.2.1.toNat) ((layS pd fr sr n).2.2) T.2.2.2.1 T.2.2.2.2)) (c_Q_giveBestRowTo_yes l D cI cC E (z) (a) ((layS pd fr sr n).1) ((layS pd fr sr n).2.1) (T.1) (T.2.1) (T.2.2.1) (BG (layS pd fr sr n).2.1 (nx1 T.1) T.2.2.2.1.toNat) ((layS pd fr sr n).2.2) (T.2.2.2.1) (T.2.2.2.2) (sd) (pd) (rk) (gp) (of) (to) (n) (by first | assumption | omega) (by omega) hfr9 hbr9 (by omega)) cw_F_110 [8, 9, 10, 11, 12, 13, 14, 1, 2, 3, 4, 5, 6, 7] [0] [0, 8, 9, 10, 11, 12, 13, 14, 1, 2, 3, 4, 5, 6, 7] (qr := 0) rfl rfl rfl (of_decide_eq_true rfl) rfl (of_decide_eq_true rfl) rfl (of_decide_eq_true rfl) (fun _ => rfl) (fun _ => of_decide_eq_true rfl) rfl ⟨rfl, rfl⟩ ⟨by decide, by decide⟩ ⟨by decide, by decide⟩ rfl rfl (of_decide_eq_true rfl) d_F_offset_68 rfl (fun _ _ => ?_)
          refine V.aload_n C (n := 72) (j := 0) d_F_offset_71 rfl rfl rfl ?_
          refine V.aload_n C (n := 73) (j := 0) d_F_offset_72 rfl rfl rfl ?_
          refine V.get C (n := 76) (q0 := 0) (k0 := 5) clOk_0 rfl (by decide) rfl fl_F_45 rfl d_F_offset_73 rfl ?_
          refine V.callV_i C (n := 79) (ws' := (FtW o (a 0) dr sp tx pr (z 0) ex) ++ (TabW a cI sd pd rk gp (givR ((layS pd fr sr n).1) T.2.2.1 of ((layS pd fr sr n).2.2)) to n) ++ (SeaW z cI ((layS pd fr sr n).1) ((layS pd fr sr n).2.1) T.1 T.2.1 T.2.2.1 (BG (layS pd fr sr n).2.1 (nx1 T.1) T.2.2.2.1.toNat) ((layS pd fr sr n).2.2) T.2.2.2.1 T.2.2.2.2)) (c_Q_isOver l D cI cC E (z) ((layS pd fr sr n).1) ((layS pd fr sr n).2.1) (T.1) (T.2.1) (T.2.2.1) (BG (layS pd fr sr n).2.1 (nx1 T.1) T.2.2.2.1.toNat) ((layS pd fr sr n).2.2) (T.2.2.2.1) (T.2.2.2.2) ⟨hpl9.1, by omega⟩) cw_F_104 [8, 9, 10, 11, 12, 13, 14] [0, 1, 2, 3, 4, 5, 6, 7] [0, 1, 2, 3, 4, 5, 6, 7, 8, 9, 10, 11, 12, 13, 14] (qr := 0) rfl rfl rfl (of_decide_eq_true rfl) rfl (of_decide_eq_true rfl) rfl (of_decide_eq_true rfl) rfl (of_decide_eq_true rfl) rfl ⟨rfl, rfl⟩ ⟨by decide, by decide⟩ ⟨by decide, by decide⟩ rfl rfl (of_decide_eq_true rfl) d_F_offset_76 rfl ?_
          refine V.cv C (y := bI (decide (T.2.2.2.1 < 0) = true)) (bI_c decide_eq_true_iff.symm) ?_
          refine V.put C (n := 82) (q0 := 0) (k0 := 6) (ws' := (FtW o (a 0) dr sp tx pr (z 0) (decide (T.2.2.2.1 < 0))) ++ (TabW a cI sd pd rk gp (givR ((layS pd fr sr n).1) T.2.2.1 of ((layS pd fr sr n).2.2)) to n) ++ (SeaW z cI ((layS pd fr sr n).1) ((layS pd fr sr n).2.1) T.1 T.2.1 T.2.2.1 (BG (layS pd fr sr n).2.1 (nx1 T.1) T.2.2.2.1.toNat) ((layS pd fr sr n).2.2) T.2.2.2.1 T.2.2.2.2)) clOk_0 rfl (by decide) rfl rfl fl_F_49 (bI_nar _) (bI_fit _) (of_decide_eq_true rfl) rfl d_F_offset_79 rfl ?_
          refine V.aload_n C (n := 83) (j := 0) d_F_offset_82 rfl rfl rfl ?_
          refine V.get C (n := 86) (q0 := 0) (k0 := 5) clOk_0 rfl (by decide) rfl fl_F_45 rfl d_F_offset_83 rfl ?_
          refine V.aload_n C (n := 87) (j := 0) d_F_offset_86 rfl rfl rfl ?_
          refine V.get C (n := 90) (q0 := 0) (k0 := 0) clOk_0 rfl (by decide) rfl fl_F_10 rfl d_F_offset_87 rfl ?_
          refine V.callV_i C (n := 93) (ws' := (FtW o (a 0) dr sp tx pr (z 0) (decide (T.2.2.2.1 < 0))) ++ (TabW a cI sd pd rk gp (givR ((layS pd fr sr n).1) T.2.2.1 of ((layS pd fr sr n).2.2)) to n) ++ (SeaW z cI ((layS pd ((layS pd fr sr n).1) ((layS pd fr sr n).2.1) n).1) ((layS pd ((layS pd fr sr n).1) ((layS pd fr sr n).2.1) n).2.1) T.1 T.2.1 T.2.2.1 (BG (layS pd ((layS pd fr sr n).1) ((layS pd fr sr n).2.1) n).2.1 (fun q => (givR ((layS pd fr sr n).1) T.2.2.1 of ((layS pd fr sr n).2.2)) ((layS pd ((layS pd fr sr n).1) ((layS pd fr sr n).2.1) n).1 q)) (layS pd ((layS pd fr sr n).1) ((layS pd fr sr n).2.1) n).2.2) ((layS pd ((layS pd fr sr n).1) ((layS pd fr sr n).2.1) n).2.2) T.2.2.2.1 T.2.2.2.2)) (c_Q_peakOf l D cI cC E (z) (a) ((layS pd fr sr n).1) ((layS pd fr sr n).2.1) (T.1) (T.2.1) (T.2.2.1) (BG (layS pd fr sr n).2.1 (nx1 T.1) T.2.2.2.1.toNat) ((layS pd fr sr n).2.2) (T.2.2.2.1) (T.2.2.2.2) (sd) (pd) (rk) (gp) (givR ((layS pd fr sr n).1) T.2.2.1 of ((layS pd fr sr n).2.2)) (to) (n) (TabOK_of hT (givR_le hof hbr9 _)) (BG_z _ _ _) hfr9 hsr9) cw_F_113 [8, 9, 10, 11, 12, 13, 14, 1, 2, 3, 4, 5, 6, 7] [0] [0, 8, 9, 10, 11, 12, 13, 14, 1, 2, 3, 4, 5, 6, 7] (qr := 0) rfl rfl rfl (of_decide_eq_true rfl) rfl (of_decide_eq_true rfl) rfl (of_decide_eq_true rfl) rfl (of_decide_eq_true rfl) rfl ⟨rfl, rfl⟩ ⟨by decide, by decide⟩ ⟨by decide, by decide⟩ rfl rfl (of_decide_eq_true rfl) d_F_offset_90 rfl ?_
          exact V.iret C hr d_F_offset_93 (by first | (rw [offO, ← hT9, if_pos hbp]; try rfl) | (rw [offO, ← hT9, if_neg hbp]; try rfl)) (by first | (rw [offO, ← hT9, if_pos hbp]; try rfl) | (rw [offO, ← hT9, if_neg hbp]; try rfl))
        · refine V.aload_n C (n := 61) (j := 0) d_F_offset_60 rfl rfl rfl ?_
          refine V.get C (n := 64) (q0 := 0) (k0 := 5) clOk_0 rfl (by decide) rfl fl_F_45 rfl d_F_offset_61 rfl ?_
          refine V.aload_n C (n := 65) (j := 0) d_F_offset_64 rfl rfl rfl ?_
          refine V.get C (n := 68) (q0 := 0) (k0 := 0) clOk_0 rfl (by decide) rfl fl_F_10 rfl d_F_offset_65 rfl ?_
          refine V.callV_v C (n := 71) (ws2 := fun _ => (FtW o (a 0) dr sp tx pr (z 0) ex) ++ (TabW a cI sd pd rk gp of to n) ++ (SeaW z cI ((layS pd fr sr n).1) ((layS pd fr sr n).2.1) T.1 T.2.1 T.2.2.1 (BG (layS pd fr sr n).2.1 (nx1 T.1) T.2.2.2.1.toNat) ((layS pd fr sr n).2.2) T.2.2.2.1 T.2.2.2.2)) (c_Q_giveBestRowTo_no l D cI cC E (z) (a) ((layS pd fr sr n).1) ((layS pd fr sr n).2.1) (T.1) (T.2.1) (T.2.2.1) (BG (layS pd fr sr n).2.1 (nx1 T.1) T.2.2.2.1.toNat) ((layS pd fr sr n).2.2) (T.2.2.2.1) (T.2.2.2.2) (sd) (pd) (rk) (gp) (of) (to) (n) (by first | assumption | omega) (by omega) hfr9 hbr9 (by omega)) cw_F_110 [8, 9, 10, 11, 12, 13, 14, 1, 2, 3, 4, 5, 6, 7] [0] [0, 8, 9, 10, 11, 12, 13, 14, 1, 2, 3, 4, 5, 6, 7] (qr := 0) rfl rfl rfl (of_decide_eq_true rfl) rfl (of_decide_eq_true rfl) rfl (of_decide_eq_true rfl) (fun _ => rfl) (fun _ => of_decide_eq_true rfl) rfl ⟨rfl, rfl⟩ ⟨by decide, by decide⟩ ⟨by decide, by decide⟩ rfl rfl (of_decide_eq_true rfl) d_F_offset_68 rfl (fun _ _ => ?_)
          refine V.aload_n C (n := 72) (j := 0) d_F_offset_71 rfl rfl rfl ?_
          refine V.aload_n C (n := 73) (j := 0) d_F_offset_72 rfl rfl rfl ?_
          refine V.get C (n := 76) (q0 := 0) (k0 := 5) clOk_0 rfl (by decide) rfl fl_F_45 rfl d_F_offset_73 rfl ?_
          refine V.callV_i C (n := 79) (ws' := (FtW o (a 0) dr sp tx pr (z 0) ex) ++ (TabW a cI sd pd rk gp of to n) ++ (SeaW z cI ((layS pd fr sr n).1) ((layS pd fr sr n).2.1) T.1 T.2.1 T.2.2.1 (BG (layS pd fr sr n).2.1 (nx1 T.1) T.2.2.2.1.toNat) ((layS pd fr sr n).2.2) T.2.2.2.1 T.2.2.2.2)) (c_Q_isOver l D cI cC E (z) ((layS pd fr sr n).1) ((layS pd fr sr n).2.1) (T.1) (T.2.1) (T.2.2.1) (BG (layS pd fr sr n).2.1 (nx1 T.1) T.2.2.2.1.toNat) ((layS pd fr sr n).2.2) (T.2.2.2.1) (T.2.2.2.2) ⟨hpl9.1, by omega⟩) cw_F_104 [8, 9, 10, 11, 12, 13, 14] [0, 1, 2, 3, 4, 5, 6, 7] [0, 1, 2, 3, 4, 5, 6, 7, 8, 9, 10, 11, 12, 13, 14] (qr := 0) rfl rfl rfl (of_decide_eq_true rfl) rfl (of_decide_eq_true rfl) rfl (of_decide_eq_true rfl) rfl (of_decide_eq_true rfl) rfl ⟨rfl, rfl⟩ ⟨by decide, by decide⟩ ⟨by decide, by decide⟩ rfl rfl (of_decide_eq_true rfl) d_F_offset_76 rfl ?_
          refine V.cv C (y := bI (decide (T.2.2.2.1 < 0) = true)) (bI_c decide_eq_true_iff.symm) ?_
          refine V.put C (n := 82) (q0 := 0) (k0 := 6) (ws' := (FtW o (a 0) dr sp tx pr (z 0) (decide (T.2.2.2.1 < 0))) ++ (TabW a cI sd pd rk gp of to n) ++ (SeaW z cI ((layS pd fr sr n).1) ((layS pd fr sr n).2.1) T.1 T.2.1 T.2.2.1 (BG (layS pd fr sr n).2.1 (nx1 T.1) T.2.2.2.1.toNat) ((layS pd fr sr n).2.2) T.2.2.2.1 T.2.2.2.2)) clOk_0 rfl (by decide) rfl rfl fl_F_49 (bI_nar _) (bI_fit _) (of_decide_eq_true rfl) rfl d_F_offset_79 rfl ?_
          refine V.aload_n C (n := 83) (j := 0) d_F_offset_82 rfl rfl rfl ?_
          refine V.get C (n := 86) (q0 := 0) (k0 := 5) clOk_0 rfl (by decide) rfl fl_F_45 rfl d_F_offset_83 rfl ?_
          refine V.aload_n C (n := 87) (j := 0) d_F_offset_86 rfl rfl rfl ?_
          refine V.get C (n := 90) (q0 := 0) (k0 := 0) clOk_0 rfl (by decide) rfl fl_F_10 rfl d_F_offset_87 rfl ?_
          refine V.callV_i C (n := 93) (ws' := (FtW o (a 0) dr sp tx pr (z 0) (decide (T.2.2.2.1 < 0))) ++ (TabW a cI sd pd rk gp of to n) ++ (SeaW z cI ((layS pd ((layS pd fr sr n).1) ((layS pd fr sr n).2.1) n).1) ((layS pd ((layS pd fr sr n).1) ((layS pd fr sr n).2.1) n).2.1) T.1 T.2.1 T.2.2.1 (BG (layS pd ((layS pd fr sr n).1) ((layS pd fr sr n).2.1) n).2.1 (fun q => of ((layS pd ((layS pd fr sr n).1) ((layS pd fr sr n).2.1) n).1 q)) (layS pd ((layS pd fr sr n).1) ((layS pd fr sr n).2.1) n).2.2) ((layS pd ((layS pd fr sr n).1) ((layS pd fr sr n).2.1) n).2.2) T.2.2.2.1 T.2.2.2.2)) (c_Q_peakOf l D cI cC E (z) (a) ((layS pd fr sr n).1) ((layS pd fr sr n).2.1) (T.1) (T.2.1) (T.2.2.1) (BG (layS pd fr sr n).2.1 (nx1 T.1) T.2.2.2.1.toNat) ((layS pd fr sr n).2.2) (T.2.2.2.1) (T.2.2.2.2) (sd) (pd) (rk) (gp) (of) (to) (n) hT (BG_z _ _ _) hfr9 hsr9) cw_F_113 [8, 9, 10, 11, 12, 13, 14, 1, 2, 3, 4, 5, 6, 7] [0] [0, 8, 9, 10, 11, 12, 13, 14, 1, 2, 3, 4, 5, 6, 7] (qr := 0) rfl rfl rfl (of_decide_eq_true rfl) rfl (of_decide_eq_true rfl) rfl (of_decide_eq_true rfl) rfl (of_decide_eq_true rfl) rfl ⟨rfl, rfl⟩ ⟨by decide, by decide⟩ ⟨by decide, by decide⟩ rfl rfl (of_decide_eq_true rfl) d_F_offset_90 rfl ?_
          exact V.iret C hr d_F_offset_93 (by first | (rw [offO, ← hT9, if_pos hbp]; try rfl) | (rw [offO, ← hT9, if_neg hbp]; try rfl)) (by first | (rw [offO, ← hT9, if_pos hbp]; try rfl) | (rw [offO, ← hT9, if_neg hbp]; try rfl))
      · refine V.aload_n C (n := 37) (j := 0) d_F_offset_36 rfl rfl rfl ?_
        refine V.get C (n := 40) (q0 := 0) (k0 := 5) clOk_0 rfl (by decide) rfl fl_F_45 rfl d_F_offset_37 rfl ?_
        refine V.callV_i C (n := 43) (ws' := (FtW o (a 0) dr sp tx pr (z 0) ex) ++ (TabW a cI sd pd rk gp of to n) ++ (SeaW z cI ((layS pd fr sr n).1) ((layS pd fr sr n).2.1) T.1 T.2.1 T.2.2.1 (BG (layS pd fr sr n).2.1 (nx1 T.1) T.2.2.2.1.toNat) ((layS pd fr sr n).2.2) T.2.2.2.1 T.2.2.2.2)) (c_Q_isOver l D cI cC E (z) ((layS pd fr sr n).1) ((layS pd fr sr n).2.1) (T.1) (T.2.1) (T.2.2.1) (BG (layS pd fr sr n).2.1 (nx1 T.1) T.2.2.2.1.toNat) ((layS pd fr sr n).2.2) (T.2.2.2.1) (T.2.2.2.2) ⟨hI.2.2.1, by have := hI.2.2.2.1; omega⟩) cw_F_104 [8, 9, 10, 11, 12, 13, 14] [0, 1, 2, 3, 4, 5, 6, 7] [0, 1, 2, 3, 4, 5, 6, 7, 8, 9, 10, 11, 12, 13, 14] (qr := 0) rfl rfl rfl (of_decide_eq_true rfl) rfl (of_decide_eq_true rfl) rfl (of_decide_eq_true rfl) rfl (of_decide_eq_true rfl) rfl ⟨rfl, rfl⟩ ⟨by decide, by decide⟩ ⟨by decide, by decide⟩ rfl rfl (of_decide_eq_true rfl) d_F_offset_40 rfl ?_
        refine V.ifb_ne C (tgt := 60) (n := 46) d_F_offset_43 (by decide) rfl (fun c43_4 => ?_) (fun c43_4 => ?_)
        · have hT9 : T = offT pd fr sr nx pb br n N9 := by
            have h7 : (itO (layS pd fr sr n).2.1 (layS pd fr sr n).2.2 (beg0 pd fr sr nx pb br n) m).2.2.2.1 < 0 := by rw [← hT0]; exact c43_4
            rw [hT0, offT, show N9 = m + (N9 - m) by omega, itO_end h7]
          have hbp9 : T.2.2.2.2 ≤ 41 := hI.1.2.2.2
          have hbr9 : ∀ j, T.2.2.1 j ≤ 60 := hI.2.1
          have hpl9 : -1 ≤ T.2.2.2.1 ∧ T.2.2.2.1 < (((layS pd fr sr n).2.2 : Nat) : Int) := ⟨hI.2.2.1, hI.2.2.2.1⟩
          by_cases hbp : T.2.2.2.2 ≤ 40
          · refine V.aload_n C (n := 61) (j := 0) d_F_offset_60 rfl rfl rfl ?_
            refine V.get C (n := 64) (q0 := 0) (k0 := 5) clOk_0 rfl (by decide) rfl fl_F_45 rfl d_F_offset_61 rfl ?_
            refine V.aload_n C (n := 65) (j := 0) d_F_offset_64 rfl rfl rfl ?_
            refine V.get C (n := 68) (q0 := 0) (k0 := 0) clOk_0 rfl (by decide) rfl fl_F_10 rfl d_F_offset_65 rfl ?_
            refine V.callV_v C (n := 71) (ws2 := fun _ => (FtW o (a 0) dr sp tx pr (z 0) ex) ++ (TabW a cI sd pd rk gp (givR ((layS pd fr sr n).1) T.2.2.1 of ((layS pd fr sr n).2.2)) to n) ++ (SeaW z cI ((layS pd fr sr n).1) ((layS pd fr sr n).2.1) T.1 T.2.1 T.2.2.1 (BG (layS pd fr sr n).2.1 (nx1 T.1) T.2.2.2.1.toNat) ((layS pd fr sr n).2.2) T.2.2.2.1 T.2.2.2.2)) (c_Q_giveBestRowTo_yes l D cI cC E (z) (a) ((layS pd fr sr n).1) ((layS pd fr sr n).2.1) (T.1) (T.2.1) (T.2.2.1) (BG (layS pd fr sr n).2.1 (nx1 T.1) T.2.2.2.1.toNat) ((layS pd fr sr n).2.2) (T.2.2.2.1) (T.2.2.2.2) (sd) (pd) (rk) (gp) (of) (to) (n) (by first | assumption | omega) (by omega) hfr9 hbr9 (by omega)) cw_F_110 [8, 9, 10, 11, 12, 13, 14, 1, 2, 3, 4, 5, 6, 7] [0] [0, 8, 9, 10, 11, 12, 13, 14, 1, 2, 3, 4, 5, 6, 7] (qr := 0) rfl rfl rfl (of_decide_eq_true rfl) rfl (of_decide_eq_true rfl) rfl (of_decide_eq_true rfl) (fun _ => rfl) (fun _ => of_decide_eq_true rfl) rfl ⟨rfl, rfl⟩ ⟨by decide, by decide⟩ ⟨by decide, by decide⟩ rfl rfl (of_decide_eq_true rfl) d_F_offset_68 rfl (fun _ _ => ?_)
            refine V.aload_n C (n := 72) (j := 0) d_F_offset_71 rfl rfl rfl ?_
            refine V.aload_n C (n := 73) (j := 0) d_F_offset_72 rfl rfl rfl ?_
            refine V.get C (n := 76) (q0 := 0) (k0 := 5) clOk_0 rfl (by decide) rfl fl_F_45 rfl d_F_offset_73 rfl ?_
            refine V.callV_i C (n := 79) (ws' := (FtW o (a 0) dr sp tx pr (z 0) ex) ++ (TabW a cI sd pd rk gp (givR ((layS pd fr sr n).1) T.2.2.1 of ((layS pd fr sr n).2.2)) to n) ++ (SeaW z cI ((layS pd fr sr n).1) ((layS pd fr sr n).2.1) T.1 T.2.1 T.2.2.1 (BG (layS pd fr sr n).2.1 (nx1 T.1) T.2.2.2.1.toNat) ((layS pd fr sr n).2.2) T.2.2.2.1 T.2.2.2.2)) (c_Q_isOver l D cI cC E (z) ((layS pd fr sr n).1) ((layS pd fr sr n).2.1) (T.1) (T.2.1) (T.2.2.1) (BG (layS pd fr sr n).2.1 (nx1 T.1) T.2.2.2.1.toNat) ((layS pd fr sr n).2.2) (T.2.2.2.1) (T.2.2.2.2) ⟨hpl9.1, by omega⟩) cw_F_104 [8, 9, 10, 11, 12, 13, 14] [0, 1, 2, 3, 4, 5, 6, 7] [0, 1, 2, 3, 4, 5, 6, 7, 8, 9, 10, 11, 12, 13, 14] (qr := 0) rfl rfl rfl (of_decide_eq_true rfl) rfl (of_decide_eq_true rfl) rfl (of_decide_eq_true rfl) rfl (of_decide_eq_true rfl) rfl ⟨rfl, rfl⟩ ⟨by decide, by decide⟩ ⟨by decide, by decide⟩ rfl rfl (of_decide_eq_true rfl) d_F_offset_76 rfl ?_
            refine V.cv C (y := bI (decide (T.2.2.2.1 < 0) = true)) (bI_c decide_eq_true_iff.symm) ?_
            refine V.put C (n := 82) (q0 := 0) (k0 := 6) (ws' := (FtW o (a 0) dr sp tx pr (z 0) (decide (T.2.2.2.1 < 0))) ++ (TabW a cI sd pd rk gp (givR ((layS pd fr sr n).1) T.2.2.1 of ((layS pd fr sr n).2.2)) to n) ++ (SeaW z cI ((layS pd fr sr n).1) ((layS pd fr sr n).2.1) T.1 T.2.1 T.2.2.1 (BG (layS pd fr sr n).2.1 (nx1 T.1) T.2.2.2.1.toNat) ((layS pd fr sr n).2.2) T.2.2.2.1 T.2.2.2.2)) clOk_0 rfl (by decide) rfl rfl fl_F_49 (bI_nar _) (bI_fit _) (of_decide_eq_true rfl) rfl d_F_offset_79 rfl ?_
            refine V.aload_n C (n := 83) (j := 0) d_F_offset_82 rfl rfl rfl ?_
            refine V.get C (n := 86) (q0 := 0) (k0 := 5) clOk_0 rfl (by decide) rfl fl_F_45 rfl d_F_offset_83 rfl ?_
            refine V.aload_n C (n := 87) (j := 0) d_F_offset_86 rfl rfl rfl ?_
            refine V.get C (n := 90) (q0 := 0) (k0 := 0) clOk_0 rfl (by decide) rfl fl_F_10 rfl d_F_offset_87 rfl ?_
            refine V.callV_i C (n := 93) (ws' := (FtW o (a 0) dr sp tx pr (z 0) (decide (T.2.2.2.1 < 0))) ++ (TabW a cI sd pd rk gp (givR ((layS pd fr sr n).1) T.2.2.1 of ((layS pd fr sr n).2.2)) to n) ++ (SeaW z cI ((layS pd ((layS pd fr sr n).1) ((layS pd fr sr n).2.1) n).1) ((layS pd ((layS pd fr sr n).1) ((layS pd fr sr n).2.1) n).2.1) T.1 T.2.1 T.2.2.1 (BG (layS pd ((layS pd fr sr n).1) ((layS pd fr sr n).2.1) n).2.1 (fun q => (givR ((layS pd fr sr n).1) T.2.2.1 of ((layS pd fr sr n).2.2)) ((layS pd ((layS pd fr sr n).1) ((layS pd fr sr n).2.1) n).1 q)) (layS pd ((layS pd fr sr n).1) ((layS pd fr sr n).2.1) n).2.2) ((layS pd ((layS pd fr sr n).1) ((layS pd fr sr n).2.1) n).2.2) T.2.2.2.1 T.2.2.2.2)) (c_Q_peakOf l D cI cC E (z) (a) ((layS pd fr sr n).1) ((layS pd fr sr n).2.1) (T.1) (T.2.1) (T.2.2.1) (BG (layS pd fr sr n).2.1 (nx1 T.1) T.2.2.2.1.toNat) ((layS pd fr sr n).2.2) (T.2.2.2.1) (T.2.2.2.2) (sd) (pd) (rk) (gp) (givR ((layS pd fr sr n).1) T.2.2.1 of ((layS pd fr sr n).2.2)) (to) (n) (TabOK_of hT (givR_le hof hbr9 _)) (BG_z _ _ _) hfr9 hsr9) cw_F_113 [8, 9, 10, 11, 12, 13, 14, 1, 2, 3, 4, 5, 6, 7] [0] [0, 8, 9, 10, 11, 12, 13, 14, 1, 2, 3, 4, 5, 6, 7] (qr := 0) rfl rfl rfl (of_decide_eq_true rfl) rfl (of_decide_eq_true rfl) rfl (of_decide_eq_true rfl) rfl (of_decide_eq_true rfl) rfl ⟨rfl, rfl⟩ ⟨by decide, by decide⟩ ⟨by decide, by decide⟩ rfl rfl (of_decide_eq_true rfl) d_F_offset_90 rfl ?_
            exact V.iret C hr d_F_offset_93 (by first | (rw [offO, ← hT9, if_pos hbp]; try rfl) | (rw [offO, ← hT9, if_neg hbp]; try rfl)) (by first | (rw [offO, ← hT9, if_pos hbp]; try rfl) | (rw [offO, ← hT9, if_neg hbp]; try rfl))
          · refine V.aload_n C (n := 61) (j := 0) d_F_offset_60 rfl rfl rfl ?_
            refine V.get C (n := 64) (q0 := 0) (k0 := 5) clOk_0 rfl (by decide) rfl fl_F_45 rfl d_F_offset_61 rfl ?_
            refine V.aload_n C (n := 65) (j := 0) d_F_offset_64 rfl rfl rfl ?_
            refine V.get C (n := 68) (q0 := 0) (k0 := 0) clOk_0 rfl (by decide) rfl fl_F_10 rfl d_F_offset_65 rfl ?_
            refine V.callV_v C (n := 71) (ws2 := fun _ => (FtW o (a 0) dr sp tx pr (z 0) ex) ++ (TabW a cI sd pd rk gp of to n) ++ (SeaW z cI ((layS pd fr sr n).1) ((layS pd fr sr n).2.1) T.1 T.2.1 T.2.2.1 (BG (layS pd fr sr n).2.1 (nx1 T.1) T.2.2.2.1.toNat) ((layS pd fr sr n).2.2) T.2.2.2.1 T.2.2.2.2)) (c_Q_giveBestRowTo_no l D cI cC E (z) (a) ((layS pd fr sr n).1) ((layS pd fr sr n).2.1) (T.1) (T.2.1) (T.2.2.1) (BG (layS pd fr sr n).2.1 (nx1 T.1) T.2.2.2.1.toNat) ((layS pd fr sr n).2.2) (T.2.2.2.1) (T.2.2.2.2) (sd) (pd) (rk) (gp) (of) (to) (n) (by first | assumption | omega) (by omega) hfr9 hbr9 (by omega)) cw_F_110 [8, 9, 10, 11, 12, 13, 14, 1, 2, 3, 4, 5, 6, 7] [0] [0, 8, 9, 10, 11, 12, 13, 14, 1, 2, 3, 4, 5, 6, 7] (qr := 0) rfl rfl rfl (of_decide_eq_true rfl) rfl (of_decide_eq_true rfl) rfl (of_decide_eq_true rfl) (fun _ => rfl) (fun _ => of_decide_eq_true rfl) rfl ⟨rfl, rfl⟩ ⟨by decide, by decide⟩ ⟨by decide, by decide⟩ rfl rfl (of_decide_eq_true rfl) d_F_offset_68 rfl (fun _ _ => ?_)
            refine V.aload_n C (n := 72) (j := 0) d_F_offset_71 rfl rfl rfl ?_
            refine V.aload_n C (n := 73) (j := 0) d_F_offset_72 rfl rfl rfl ?_
            refine V.get C (n := 76) (q0 := 0) (k0 := 5) clOk_0 rfl (by decide) rfl fl_F_45 rfl d_F_offset_73 rfl ?_
            refine V.callV_i C (n := 79) (ws' := (FtW o (a 0) dr sp tx pr (z 0) ex) ++ (TabW a cI sd pd rk gp of to n) ++ (SeaW z cI ((layS pd fr sr n).1) ((layS pd fr sr n).2.1) T.1 T.2.1 T.2.2.1 (BG (layS pd fr sr n).2.1 (nx1 T.1) T.2.2.2.1.toNat) ((layS pd fr sr n).2.2) T.2.2.2.1 T.2.2.2.2)) (c_Q_isOver l D cI cC E (z) ((layS pd fr sr n).1) ((layS pd fr sr n).2.1) (T.1) (T.2.1) (T.2.2.1) (BG (layS pd fr sr n).2.1 (nx1 T.1) T.2.2.2.1.toNat) ((layS pd fr sr n).2.2) (T.2.2.2.1) (T.2.2.2.2) ⟨hpl9.1, by omega⟩) cw_F_104 [8, 9, 10, 11, 12, 13, 14] [0, 1, 2, 3, 4, 5, 6, 7] [0, 1, 2, 3, 4, 5, 6, 7, 8, 9, 10, 11, 12, 13, 14] (qr := 0) rfl rfl rfl (of_decide_eq_true rfl) rfl (of_decide_eq_true rfl) rfl (of_decide_eq_true rfl) rfl (of_decide_eq_true rfl) rfl ⟨rfl, rfl⟩ ⟨by decide, by decide⟩ ⟨by decide, by decide⟩ rfl rfl (of_decide_eq_true rfl) d_F_offset_76 rfl ?_
            refine V.cv C (y := bI (decide (T.2.2.2.1 < 0) = true)) (bI_c decide_eq_true_iff.symm) ?_
            refine V.put C (n := 82) (q0 := 0) (k0 := 6) (ws' := (FtW o (a 0) dr sp tx pr (z 0) (decide (T.2.2.2.1 < 0))) ++ (TabW a cI sd pd rk gp of to n) ++ (SeaW z cI ((layS pd fr sr n).1) ((layS pd fr sr n).2.1) T.1 T.2.1 T.2.2.1 (BG (layS pd fr sr n).2.1 (nx1 T.1) T.2.2.2.1.toNat) ((layS pd fr sr n).2.2) T.2.2.2.1 T.2.2.2.2)) clOk_0 rfl (by decide) rfl rfl fl_F_49 (bI_nar _) (bI_fit _) (of_decide_eq_true rfl) rfl d_F_offset_79 rfl ?_
            refine V.aload_n C (n := 83) (j := 0) d_F_offset_82 rfl rfl rfl ?_
            refine V.get C (n := 86) (q0 := 0) (k0 := 5) clOk_0 rfl (by decide) rfl fl_F_45 rfl d_F_offset_83 rfl ?_
            refine V.aload_n C (n := 87) (j := 0) d_F_offset_86 rfl rfl rfl ?_
            refine V.get C (n := 90) (q0 := 0) (k0 := 0) clOk_0 rfl (by decide) rfl fl_F_10 rfl d_F_offset_87 rfl ?_
            refine V.callV_i C (n := 93) (ws' := (FtW o (a 0) dr sp tx pr (z 0) (decide (T.2.2.2.1 < 0))) ++ (TabW a cI sd pd rk gp of to n) ++ (SeaW z cI ((layS pd ((layS pd fr sr n).1) ((layS pd fr sr n).2.1) n).1) ((layS pd ((layS pd fr sr n).1) ((layS pd fr sr n).2.1) n).2.1) T.1 T.2.1 T.2.2.1 (BG (layS pd ((layS pd fr sr n).1) ((layS pd fr sr n).2.1) n).2.1 (fun q => of ((layS pd ((layS pd fr sr n).1) ((layS pd fr sr n).2.1) n).1 q)) (layS pd ((layS pd fr sr n).1) ((layS pd fr sr n).2.1) n).2.2) ((layS pd ((layS pd fr sr n).1) ((layS pd fr sr n).2.1) n).2.2) T.2.2.2.1 T.2.2.2.2)) (c_Q_peakOf l D cI cC E (z) (a) ((layS pd fr sr n).1) ((layS pd fr sr n).2.1) (T.1) (T.2.1) (T.2.2.1) (BG (layS pd fr sr n).2.1 (nx1 T.1) T.2.2.2.1.toNat) ((layS pd fr sr n).2.2) (T.2.2.2.1) (T.2.2.2.2) (sd) (pd) (rk) (gp) (of) (to) (n) hT (BG_z _ _ _) hfr9 hsr9) cw_F_113 [8, 9, 10, 11, 12, 13, 14, 1, 2, 3, 4, 5, 6, 7] [0] [0, 8, 9, 10, 11, 12, 13, 14, 1, 2, 3, 4, 5, 6, 7] (qr := 0) rfl rfl rfl (of_decide_eq_true rfl) rfl (of_decide_eq_true rfl) rfl (of_decide_eq_true rfl) rfl (of_decide_eq_true rfl) rfl ⟨rfl, rfl⟩ ⟨by decide, by decide⟩ ⟨by decide, by decide⟩ rfl rfl (of_decide_eq_true rfl) d_F_offset_90 rfl ?_
            exact V.iret C hr d_F_offset_93 (by first | (rw [offO, ← hT9, if_pos hbp]; try rfl) | (rw [offO, ← hT9, if_neg hbp]; try rfl)) (by first | (rw [offO, ← hT9, if_pos hbp]; try rfl) | (rw [offO, ← hT9, if_neg hbp]; try rfl))
        · obtain ⟨k9, hk9⟩ := Int.eq_ofNat_of_zero_le (show 0 ≤ T.2.2.2.1 by omega)
          refine V.wo C (ws' := (FtW o (a 0) dr sp tx pr (z 0) ex) ++ (TabW a cI sd pd rk gp of to n) ++ (SeaW z cI ((layS pd fr sr n).1) ((layS pd fr sr n).2.1) T.1 T.2.1 T.2.2.1 (BG (layS pd fr sr n).2.1 (nx1 T.1) k9) ((layS pd fr sr n).2.2) (((k9 : Nat) : Int)) T.2.2.2.2)) (by rw [hk9]; try rfl) ?_
          have hI2 : SeaI (layS pd fr sr n).2.1 (layS pd fr sr n).2.2 (T.1, T.2.1, T.2.2.1, ((k9 : Nat) : Int), T.2.2.2.2) := by rw [← hk9]; exact hI
          have hkk : T.1 k9 < (layS pd fr sr n).2.1 k9 := hI2.2.2.2.2.2 (Int.natCast_nonneg k9)
          have hk60 := hsr9 k9
          have hkp : ((k9 : Nat) : Int) < (((layS pd fr sr n).2.2 : Nat) : Int) := hI2.2.2.2.1
          refine V.aload_n C (n := 47) (j := 0) d_F_offset_46 rfl rfl rfl ?_
          refine V.get C (n := 50) (q0 := 0) (k0 := 5) clOk_0 rfl (by decide) rfl fl_F_45 rfl d_F_offset_47 rfl ?_
          refine V.callV_v C (n := 53) (ws2 := fun _ => (FtW o (a 0) dr sp tx pr (z 0) ex) ++ (TabW a cI sd pd rk gp of to n) ++ (SeaW z cI ((layS pd fr sr n).1) ((layS pd fr sr n).2.1) ((stepS ((layS pd fr sr n).2.1) ((layS pd fr sr n).2.2) k9 T.1 T.2.1 T.2.2.1 T.2.2.2.2).1) ((stepS ((layS pd fr sr n).2.1) ((layS pd fr sr n).2.2) k9 T.1 T.2.1 T.2.2.1 T.2.2.2.2).2.1) ((stepS ((layS pd fr sr n).2.1) ((layS pd fr sr n).2.2) k9 T.1 T.2.1 T.2.2.1 T.2.2.2.2).2.2.1) (BG ((layS pd fr sr n).2.1) (nx1 (stepS ((layS pd fr sr n).2.1) ((layS pd fr sr n).2.2) k9 T.1 T.2.1 T.2.2.1 T.2.2.2.2).1) ((stepS ((layS pd fr sr n).2.1) ((layS pd fr sr n).2.2) k9 T.1 T.2.1 T.2.2.1 T.2.2.2.2).2.2.2.1).toNat) ((layS pd fr sr n).2.2) ((stepS ((layS pd fr sr n).2.1) ((layS pd fr sr n).2.2) k9 T.1 T.2.1 T.2.2.1 T.2.2.2.2).2.2.2.1) ((stepS ((layS pd fr sr n).2.1) ((layS pd fr sr n).2.2) k9 T.1 T.2.1 T.2.2.1 T.2.2.2.2).2.2.2.2))) (c_Q_step l D cI cC E (z) ((layS pd fr sr n).1) ((layS pd fr sr n).2.1) (T.1) (T.2.1) (T.2.2.1) (BG (layS pd fr sr n).2.1 (nx1 T.1) k9) ((layS pd fr sr n).2.2) (k9) (T.2.2.2.2) (by omega) (by omega) hI2.1 (fun j hj => hI2.2.2.2.2.1 j (by show (j : Int) < (k9 : Int); omega)) (by omega) rfl) cw_F_107 [8, 9, 10, 11, 12, 13, 14] [0, 1, 2, 3, 4, 5, 6, 7] [0, 1, 2, 3, 4, 5, 6, 7, 8, 9, 10, 11, 12, 13, 14] (qr := 0) rfl rfl rfl (of_decide_eq_true rfl) rfl (of_decide_eq_true rfl) rfl (of_decide_eq_true rfl) (fun _ => rfl) (fun _ => of_decide_eq_true rfl) rfl ⟨rfl, rfl⟩ ⟨by decide, by decide⟩ ⟨by decide, by decide⟩ rfl rfl (of_decide_eq_true rfl) d_F_offset_50 rfl (fun _ _ => ?_)
          refine V.lload_n C (n := 54) (j := 2) d_F_offset_53 rfl rfl rfl ?_
          refine V.lconst C (v := jI 1) (n := 55) d_F_offset_54 (by decide) rfl ?_
          refine V.ladd C (v := jI ((m + 1 : Nat) : Int)) (n := 56) d_F_offset_55 (by rw [jI_add]; exact congrArg jI (by omega)) rfl ?_
          refine V.lstore_n C (n := 57) (lv' := [(0, .ref (o 0)), (1, .long (jI (((N9 : Nat) : Int)))), (3, .long (jI (((m + 1 : Nat) : Int))))]) [1, 2, 0] d_F_offset_56 rfl (by decide) rfl rfl ?_
          refine V.goto C (n := 30) d_F_offset_57 (by decide) ?_
          exact ih30 (m + 1) (stepS (layS pd fr sr n).2.1 (layS pd fr sr n).2.2 k9 T.1 T.2.1 T.2.2.1 T.2.2.2.2) ⟨by omega, itO_s hT0 hk9, stepS_I (by omega) hI2⟩ (by omega)
    · exfalso; omega
end
section
theorem sgAt_rng {sg : Nat → Nat} {ln : Nat} (h : TxtOK sg ln) (X : Int) : -1 ≤ sgAt sg ln X ∧ sgAt sg ln X ≤ 255 := by
  have := h.2 X.toNat
  unfold sgAt
  split <;> omega
/-- an octet of a typed int: 0 is none -/
def octX (t : TxS) (o : Nat) : TxS := if o ≠ 0 then addX t o else t
theorem octX_0 {t : TxS} {o : Nat} (h : o = 0) : octX t o = t := if_neg (fun q => q h)
theorem octX_1 {t : TxS} {o : Nat} (h : o ≠ 0) : octX t o = addX t o := if_pos h
theorem octX_ok {t : TxS} {o : Nat} (h : TxtOK t.1 t.2.1) (ho : o ≤ 255) : TxtOK (octX t o).1 (octX t o).2.1 := by
  unfold octX
  split
  · exact addX_ok h ho
  · exact h
def sgnX (t : TxS) (x : Nat) : TxS := octX (octX (octX (octX t (x / 2 ^ 24 % 256)) (x / 2 ^ 16 % 256)) (x / 2 ^ 8 % 256)) (x / 2 ^ 0 % 256)
/-- a number's digits, from the place k down -/
def numD (x : Nat) : Nat → TxS → TxS
  | 0, t => addX t (48 + x / 1 % 10)
  | k + 1, t => numD x k (addX t (48 + x / 10 ^ (k + 1) % 10))
def ndg (x : Nat) : Nat := if x < 10 then 0 else if x < 100 then 1 else if x < 1000 then 2 else if x < 10000 then 3 else 4
def numX (t : TxS) (x : Nat) : TxS := numD x (ndg x) (addX t 32)
theorem ndg_of {x k u : Nat} (hx : x ≤ 10000) (hk : k ≤ 4) (hu : u = 10 ^ k) (h1 : k = 0 ∨ u ≤ x) (h2 : x / 10 < u) : k = ndg x := by
  unfold ndg
  have h : k = 0 ∨ k = 1 ∨ k = 2 ∨ k = 3 ∨ k = 4 := by omega
  rcases h with h | h | h | h | h <;> subst h <;> simp only [Nat.reducePow] at hu <;> repeat (first | omega | split)
theorem pow_le4 {k u : Nat} (hk : k ≤ 4) (hu : u = 10 ^ k) : 1 ≤ u ∧ u ≤ 10000 := by
  have h : k = 0 ∨ k = 1 ∨ k = 2 ∨ k = 3 ∨ k = 4 := by omega
  rcases h with h | h | h | h | h <;> subst h <;> simp only [Nat.reducePow] at hu <;> omega
theorem numD_ok {x : Nat} (k : Nat) : ∀ t : TxS, TxtOK t.1 t.2.1 → TxtOK (numD x k t).1 (numD x k t).2.1 := by
  induction k with
  | zero => intro t h; exact addX_ok h (by omega)
  | succ k ih => intro t h; exact ih _ (addX_ok h (by omega))
theorem numX_ok {t : TxS} {x : Nat} (h : TxtOK t.1 t.2.1) : TxtOK (numX t x).1 (numX t x).2.1 := numD_ok _ _ (addX_ok h (by omega))
/-- the second loop of addNumber: what is left to write -/
def numI (x rs : Nat) (T F : TxS) : Prop := (rs = 0 ∧ T = F) ∨ ∃ k, k ≤ 4 ∧ rs = 10 ^ k ∧ numD x k T = F
theorem numI_n {x rs : Nat} {T F : TxS} (h : numI x rs T F) (h0 : 0 < rs) : numI x (rs / 10) (addX T (48 + x / rs % 10)) F := by
  rcases h with h | ⟨k, hk, hr, hF⟩
  · omega
  · cases k with
    | zero =>
      have e : rs = 1 := hr
      subst e
      exact Or.inl ⟨rfl, hF⟩
    | succ k =>
      refine Or.inr ⟨k, by omega, ?_, ?_⟩
      · rw [hr, Nat.pow_succ]
        exact Nat.mul_div_cancel _ (by decide)
      · rw [hr]
        exact hF
theorem numI_b {x rs : Nat} {T F : TxS} (h : numI x rs T F) : rs ≤ 10000 := by
  rcases h with h | ⟨k, hk, hr, -⟩
  · omega
  · exact (pow_le4 hk hr).2
theorem numI_e {x rs : Nat} {T F : TxS} (h : numI x rs T F) (h0 : rs = 0) : T = F := by
  rcases h with h | ⟨k, hk, hr, -⟩
  · exact h.2
  · have := (pow_le4 hk hr).1
    omega
theorem NUMK {y k u : Nat} (hk : k ≤ 4) (hu : u = 10 ^ k) (h : u ≤ y / 10) (hy : y ≤ 10000) : k ≤ 3 := by
  have q : k = 4 ∨ k ≤ 3 := by omega
  rcases q with q | q
  · subst q
    simp only [Nat.reducePow] at hu
    omega
  · exact q
end
section
set_option maxHeartbeats 4000000 in
set_option maxRecDepth 100000 in
theorem c_F_breaks_1 (l : Launch) (D : va_G) (cI cC : ClassId) (E : Nat → Nat) (o a q : Nat → Nat) (dr tx pr se : Nat) (ex : Bool) (sd pd rk gp of to : Nat → Nat) (n : Nat) (fi la : Nat → Nat) (f : Nat) (hT : TabOK sd pd rk gp of to n) (hS0 : SpnOK fi la) (hf : 1 ≤ f ∧ f ≤ 40) : CI l D (TY cI cC E) m_F_breaks (rmD 4) [.ref (o 0), .int (nI 1), .int (nI f)] ((FtW o (a 0) dr (q 0) tx pr se ex) ++ (TabW a cI sd pd rk gp of to n) ++ (SpnW q cI fi la)) (bI (brk sd pd rk to fi la n 1 f = true)) ((FtW o (a 0) dr (q 0) tx pr se ex) ++ (TabW a cI sd pd rk gp of to n) ++ (SpnW q cI fi la)) := by
  obtain ⟨hn, hsd, hpd, hrk, hgp, hof, hto⟩ := id hT
  obtain ⟨hfi, hla⟩ := id hS0
  refine CI.of (by decide +kernel) (of_decide_eq_true rfl) ?_
  intro p e s m args below meth c C hr
  refine V.iload_n C (n := 1) (j := 1) d_F_breaks_0 rfl rfl rfl ?_
  refine V.tableIn C (X := ((1 : Nat) : Int)) (off := 31) (n := 32) (nT (by decide)) d_F_breaks_1 (by decide) (by decide) (by decide) (by decide) ?_
  refine V.aload_n C (n := 33) (j := 0) d_F_breaks_32 rfl rfl rfl ?_
  refine V.iload_n C (n := 34) (j := 2) d_F_breaks_33 rfl rfl rfl ?_
  refine V.callV_i C (n := 37) (ws' := (FtW o (a 0) dr (q 0) tx pr se ex) ++ (TabW a cI sd pd rk gp of to n) ++ (SpnW q cI fi la)) (c_F_identifierOf l D cI cC E (o) (a) (q) (dr) (tx) (pr) (se) (ex) (sd) (pd) (rk) (gp) (of) (to) (n) (fi) (la) (f) (by first | assumption | omega) (by first | assumption | omega) (by first | assumption | omega)) cw_F_85 [0, 1, 2, 3, 4, 5, 6, 7, 8, 9, 10] [] [0, 1, 2, 3, 4, 5, 6, 7, 8, 9, 10] (qr := 0) rfl rfl rfl (of_decide_eq_true rfl) rfl (of_decide_eq_true rfl) rfl (of_decide_eq_true rfl) rfl (of_decide_eq_true rfl) rfl ⟨rfl, rfl⟩ ⟨by decide, by decide⟩ ⟨by decide, by decide⟩ rfl rfl (of_decide_eq_true rfl) d_F_breaks_34 rfl ?_
  have hid := idOf_rng hT hS0 f
  refine V.iconst C (v := iI (-1)) (n := 38) d_F_breaks_37 (by decide) rfl ?_
  refine V.icmp_ne C (tgt := 45) (n := 41) (iI_toInt (by omega) (by omega)) (iI_toInt (by omega) (by omega)) d_F_breaks_38 (by decide) rfl (fun c38_1 => ?_) (fun c38_1 => ?_)
  · refine V.iconst C (v := nI 0) (n := 46) d_F_breaks_45 (by decide) rfl ?_
    exact V.zret C hr (bI_nar _) d_F_breaks_46 (by first | exact bI_1 (decide_eq_true (by assumption)) | exact bI_0 (by show ¬ decide _ = true; simp only [decide_eq_true_eq]; assumption)) (rfl)
  · refine V.iconst C (v := nI 1) (n := 42) d_F_breaks_41 (by decide) rfl ?_
    refine V.goto C (n := 46) d_F_breaks_42 (by decide) ?_
    exact V.zret C hr (bI_nar _) d_F_breaks_46 (by first | exact bI_1 (decide_eq_true (by assumption)) | exact bI_0 (by show ¬ decide _ = true; simp only [decide_eq_true_eq]; assumption)) (rfl)
set_option maxHeartbeats 4000000 in
set_option maxRecDepth 100000 in
theorem c_F_breaks_2 (l : Launch) (D : va_G) (cI cC : ClassId) (E : Nat → Nat) (o a q : Nat → Nat) (dr tx pr se : Nat) (ex : Bool) (sd pd rk gp of to : Nat → Nat) (n : Nat) (fi la : Nat → Nat) (f : Nat) (hT : TabOK sd pd rk gp of to n) (hS0 : SpnOK fi la) (hf : 1 ≤ f ∧ f ≤ 40) : CI l D (TY cI cC E) m_F_breaks (rmD 4) [.ref (o 0), .int (nI 2), .int (nI f)] ((FtW o (a 0) dr (q 0) tx pr se ex) ++ (TabW a cI sd pd rk gp of to n) ++ (SpnW q cI fi la)) (bI (brk sd pd rk to fi la n 2 f = true)) ((FtW o (a 0) dr (q 0) tx pr se ex) ++ (TabW a cI sd pd rk gp of to n) ++ (SpnW q cI fi la)) := by
  obtain ⟨hn, hsd, hpd, hrk, hgp, hof, hto⟩ := id hT
  obtain ⟨hfi, hla⟩ := id hS0
  refine CI.of (by decide +kernel) (of_decide_eq_true rfl) ?_
  intro p e s m args below meth c C hr
  refine V.iload_n C (n := 1) (j := 1) d_F_breaks_0 rfl rfl rfl ?_
  refine V.tableIn C (X := ((2 : Nat) : Int)) (off := 46) (n := 47) (nT (by decide)) d_F_breaks_1 (by decide) (by decide) (by decide) (by decide) ?_
  refine V.aload_n C (n := 48) (j := 0) d_F_breaks_47 rfl rfl rfl ?_
  refine V.get C (n := 51) (q0 := 0) (k0 := 0) clOk_0 rfl (by decide) rfl fl_F_10 rfl d_F_breaks_48 rfl ?_
  refine V.iload_n C (n := 52) (j := 2) d_F_breaks_51 rfl rfl rfl ?_
  refine V.callV_i C (n := 55) (ws' := (FtW o (a 0) dr (q 0) tx pr se ex) ++ (TabW a cI sd pd rk gp of to n) ++ (SpnW q cI fi la)) (c_T_readersOf l D cI cC E (a) (sd) (pd) (rk) (gp) (of) (to) (n) (f) (by first | assumption | omega) (by first | assumption | omega)) cw_F_82 [1, 2, 3, 4, 5, 6, 7] [0, 8, 9, 10] [0, 4, 5, 6, 7, 8, 9, 10, 1, 2, 3] (qr := 0) rfl rfl rfl (of_decide_eq_true rfl) rfl (of_decide_eq_true rfl) rfl (of_decide_eq_true rfl) rfl (of_decide_eq_true rfl) rfl ⟨rfl, rfl⟩ ⟨by decide, by decide⟩ ⟨by decide, by decide⟩ rfl rfl (of_decide_eq_true rfl) d_F_breaks_52 rfl ?_
  have hcl := cntB_le (fun k => decide (0 < to (f * 21 + k))) 20
  refine V.ifn_ne C (tgt := 62) (n := 58) (by omega) d_F_breaks_55 (by decide) rfl (fun c55_1 => ?_) (fun c55_1 => ?_)
  · refine V.iconst C (v := nI 0) (n := 63) d_F_breaks_62 (by decide) rfl ?_
    exact V.zret C hr (bI_nar _) d_F_breaks_63 (by first | exact bI_1 (decide_eq_true (by assumption)) | exact bI_0 (by show ¬ decide _ = true; simp only [decide_eq_true_eq]; assumption)) (rfl)
  · refine V.iconst C (v := nI 1) (n := 59) d_F_breaks_58 (by decide) rfl ?_
    refine V.goto C (n := 63) d_F_breaks_59 (by decide) ?_
    exact V.zret C hr (bI_nar _) d_F_breaks_63 (by first | exact bI_1 (decide_eq_true (by assumption)) | exact bI_0 (by show ¬ decide _ = true; simp only [decide_eq_true_eq]; assumption)) (rfl)
set_option maxHeartbeats 4000000 in
set_option maxRecDepth 100000 in
theorem c_F_breaks_3 (l : Launch) (D : va_G) (cI cC : ClassId) (E : Nat → Nat) (o a q : Nat → Nat) (dr tx pr se : Nat) (ex : Bool) (sd pd rk gp of to : Nat → Nat) (n : Nat) (fi la : Nat → Nat) (f : Nat) (hT : TabOK sd pd rk gp of to n) (hS0 : SpnOK fi la) (hf : 1 ≤ f ∧ f ≤ 40) : CI l D (TY cI cC E) m_F_breaks (rmD 4) [.ref (o 0), .int (nI 3), .int (nI f)] ((FtW o (a 0) dr (q 0) tx pr se ex) ++ (TabW a cI sd pd rk gp of to n) ++ (SpnW q cI fi la)) (bI (brk sd pd rk to fi la n 3 f = true)) ((FtW o (a 0) dr (q 0) tx pr se ex) ++ (TabW a cI sd pd rk gp of to n) ++ (SpnW q cI fi la)) := by
  obtain ⟨hn, hsd, hpd, hrk, hgp, hof, hto⟩ := id hT
  obtain ⟨hfi, hla⟩ := id hS0
  refine CI.of (by decide +kernel) (of_decide_eq_true rfl) ?_
  intro p e s m args below meth c C hr
  refine V.iload_n C (n := 1) (j := 1) d_F_breaks_0 rfl rfl rfl ?_
  refine V.tableIn C (X := ((3 : Nat) : Int)) (off := 63) (n := 64) (nT (by decide)) d_F_breaks_1 (by decide) (by decide) (by decide) (by decide) ?_
  refine V.aload_n C (n := 65) (j := 0) d_F_breaks_64 rfl rfl rfl ?_
  refine V.get C (n := 68) (q0 := 0) (k0 := 0) clOk_0 rfl (by decide) rfl fl_F_10 rfl d_F_breaks_65 rfl ?_
  refine V.iload_n C (n := 69) (j := 2) d_F_breaks_68 rfl rfl rfl ?_
  refine V.callV_i C (n := 72) (ws' := (FtW o (a 0) dr (q 0) tx pr se ex) ++ (TabW a cI sd pd rk gp of to n) ++ (SpnW q cI fi la)) (c_T_hasShortTimeout l D cI cC E (a) (sd) (pd) (rk) (gp) (of) (to) (n) (f) (by first | assumption | omega) (by first | assumption | omega)) cw_F_171 [1, 2, 3, 4, 5, 6, 7] [0, 8, 9, 10] [0, 4, 5, 6, 7, 8, 9, 10, 1, 2, 3] (qr := 0) rfl rfl rfl (of_decide_eq_true rfl) rfl (of_decide_eq_true rfl) rfl (of_decide_eq_true rfl) rfl (of_decide_eq_true rfl) rfl ⟨rfl, rfl⟩ ⟨by decide, by decide⟩ ⟨by decide, by decide⟩ rfl rfl (of_decide_eq_true rfl) d_F_breaks_69 rfl ?_
  exact V.zret C hr (bI_nar _) d_F_breaks_72 (rfl) (rfl)
set_option maxHeartbeats 4000000 in
set_option maxRecDepth 100000 in
theorem c_F_breaks_4 (l : Launch) (D : va_G) (cI cC : ClassId) (E : Nat → Nat) (o a q : Nat → Nat) (dr tx pr se : Nat) (ex : Bool) (sd pd rk gp of to : Nat → Nat) (n : Nat) (fi la : Nat → Nat) (f : Nat) (hT : TabOK sd pd rk gp of to n) (hS0 : SpnOK fi la) (hf : 1 ≤ f ∧ f ≤ 40) : CI l D (TY cI cC E) m_F_breaks (rmD 4) [.ref (o 0), .int (nI 4), .int (nI f)] ((FtW o (a 0) dr (q 0) tx pr se ex) ++ (TabW a cI sd pd rk gp of to n) ++ (SpnW q cI fi la)) (bI (brk sd pd rk to fi la n 4 f = true)) ((FtW o (a 0) dr (q 0) tx pr se ex) ++ (TabW a cI sd pd rk gp of to n) ++ (SpnW q cI fi la)) := by
  obtain ⟨hn, hsd, hpd, hrk, hgp, hof, hto⟩ := id hT
  obtain ⟨hfi, hla⟩ := id hS0
  refine CI.of (by decide +kernel) (of_decide_eq_true rfl) ?_
  intro p e s m args below meth c C hr
  refine V.iload_n C (n := 1) (j := 1) d_F_breaks_0 rfl rfl rfl ?_
  refine V.tableIn C (X := ((4 : Nat) : Int)) (off := 72) (n := 73) (nT (by decide)) d_F_breaks_1 (by decide) (by decide) (by decide) (by decide) ?_
  refine V.aload_n C (n := 74) (j := 0) d_F_breaks_73 rfl rfl rfl ?_
  refine V.get C (n := 77) (q0 := 0) (k0 := 0) clOk_0 rfl (by decide) rfl fl_F_10 rfl d_F_breaks_74 rfl ?_
  refine V.iload_n C (n := 78) (j := 2) d_F_breaks_77 rfl rfl rfl ?_
  refine V.callV_i C (n := 81) (ws' := (FtW o (a 0) dr (q 0) tx pr se ex) ++ (TabW a cI sd pd rk gp of to n) ++ (SpnW q cI fi la)) (c_T_repeatsAnEarlierOne l D cI cC E (a) (sd) (pd) (rk) (gp) (of) (to) (n) (f) (by first | assumption | omega) (by first | assumption | omega)) cw_F_174 [1, 2, 3, 4, 5, 6, 7] [0, 8, 9, 10] [0, 4, 5, 6, 7, 8, 9, 10, 1, 2, 3] (qr := 0) rfl rfl rfl (of_decide_eq_true rfl) rfl (of_decide_eq_true rfl) rfl (of_decide_eq_true rfl) rfl (of_decide_eq_true rfl) rfl ⟨rfl, rfl⟩ ⟨by decide, by decide⟩ ⟨by decide, by decide⟩ rfl rfl (of_decide_eq_true rfl) d_F_breaks_78 rfl ?_
  exact V.zret C hr (bI_nar _) d_F_breaks_81 (rfl) (rfl)
set_option maxHeartbeats 4000000 in
set_option maxRecDepth 100000 in
theorem c_F_check (l : Launch) (D : va_G) (cI cC : ClassId) (E : Nat → Nat) (o a q : Nat → Nat) (dr tx pr se : Nat) (ex : Bool) (sd pd rk gp of to : Nat → Nat) (n : Nat) (fi la : Nat → Nat) (hT : TabOK sd pd rk gp of to n) (hS0 : SpnOK fi la) : CI l D (TY cI cC E) m_F_check (rmD 5) [.ref (o 0)] ((FtW o (a 0) dr (q 0) tx pr se ex) ++ (TabW a cI sd pd rk gp of to n) ++ (SpnW q cI fi la)) (nI (chk (brk sd pd rk to fi la n) n)) ((FtW o (a 0) dr (q 0) tx pr se ex) ++ (TabW a cI sd pd rk gp of to n) ++ (SpnW q cI fi la)) := by
  obtain ⟨hn, hsd, hpd, hrk, hgp, hof, hto⟩ := id hT
  obtain ⟨hfi, hla⟩ := id hS0
  refine CI.of (by decide +kernel) (of_decide_eq_true rfl) ?_
  intro p e s m args below meth c C hr
  refine V.iconst C (v := nI 1) (n := 1) d_F_check_0 (by decide) rfl ?_
  refine V.istore_n C (n := 2) (lv' := [(0, .ref (o 0)), (1, .int (nI 1))]) [1, 0] d_F_check_1 rfl (by decide) rfl rfl ?_
  refine V.iload_n C (n := 3) (j := 1) d_F_check_2 rfl rfl rfl ?_
  refine V.iconst C (v := nI 4) (n := 4) d_F_check_3 (by decide) rfl ?_
  refine V.icmpn_gt C (tgt := 49) (n := 7) (by omega) (by omega) d_F_check_4 (by decide) rfl (fun c4_1 => ?_) (fun c4_1 => ?_)
  · exact absurd c4_1 (by decide)
  · refine V.iconst C (v := nI 1) (n := 8) d_F_check_7 (by decide) rfl ?_
    refine V.istore_n C (n := 9) (lv' := [(0, .ref (o 0)), (1, .int (nI 1)), (2, .int (nI 1))]) [1, 2, 0] d_F_check_8 rfl (by decide) rfl rfl ?_
    refine V.ind1 C (fun (j : Nat) => (FtW o (a 0) dr (q 0) tx pr se ex) ++ (TabW a cI sd pd rk gp of to n) ++ (SpnW q cI fi la)) (fun (j : Nat) => [(0, .ref (o 0)), (1, .int (nI 1)), (2, .int (nI (j + 1)))]) (fun (j : Nat) => (j ≤ n) ∧ (fstB (brk sd pd rk to fi la n 1) j = 0)) (fun (j : Nat) => n - j) (0) ⟨by omega, rfl⟩ rfl rfl ?_
    rintro j ⟨hj, ha⟩ ih9
    try dsimp only
    refine V.iload_n C (n := 10) (j := 2) d_F_check_9 rfl rfl rfl ?_
    refine V.aload_n C (n := 11) (j := 0) d_F_check_10 rfl rfl rfl ?_
    refine V.get C (n := 14) (q0 := 0) (k0 := 0) clOk_0 rfl (by decide) rfl fl_F_10 rfl d_F_check_11 rfl ?_
    refine V.callV_i C (n := 17) (ws' := (FtW o (a 0) dr (q 0) tx pr se ex) ++ (TabW a cI sd pd rk gp of to n) ++ (SpnW q cI fi la)) (c_T_size l D cI cC E (a) (sd) (pd) (rk) (gp) (of) (to) (n) (by first | assumption | omega)) cw_F_127 [1, 2, 3, 4, 5, 6, 7] [0, 8, 9, 10] [0, 4, 5, 6, 7, 8, 9, 10, 1, 2, 3] (qr := 0) rfl rfl rfl (of_decide_eq_true rfl) rfl (of_decide_eq_true rfl) rfl (of_decide_eq_true rfl) rfl (of_decide_eq_true rfl) rfl ⟨rfl, rfl⟩ ⟨by decide, by decide⟩ ⟨by decide, by decide⟩ rfl rfl (of_decide_eq_true rfl) d_F_check_14 rfl ?_
    refine V.icmpn_gt C (tgt := 43) (n := 20) (by omega) (by omega) d_F_check_17 (by decide) rfl (fun c17_2 => ?_) (fun c17_2 => ?_)
    · have hr1 : fstB (brk sd pd rk to fi la n 1) n = 0 := by have e := (show j = n by omega); rw [e] at ha; exact ha
      refine V.iinc C (n := 46) (j := 1) (v := nI 2) (lv' := [(0, .ref (o 0)), (1, .int (nI 2)), (2, .int (nI (j + 1)))]) [1, 0, 2] d_F_check_43 rfl (by decide) (by decide) rfl rfl ?_
      refine V.goto C (n := 2) d_F_check_46 (by decide) ?_
      refine V.iload_n C (n := 3) (j := 1) d_F_check_2 rfl rfl rfl ?_
      refine V.iconst C (v := nI 4) (n := 4) d_F_check_3 (by decide) rfl ?_
      refine V.icmpn_gt C (tgt := 49) (n := 7) (by omega) (by omega) d_F_check_4 (by decide) rfl (fun c4_3 => ?_) (fun c4_3 => ?_)
      · exact absurd c4_3 (by decide)
      · refine V.iconst C (v := nI 1) (n := 8) d_F_check_7 (by decide) rfl ?_
        refine V.istore_n C (n := 9) (lv' := [(0, .ref (o 0)), (1, .int (nI 2)), (2, .int (nI 1))]) [1, 2, 0] d_F_check_8 rfl (by decide) rfl rfl ?_
        refine V.ind1 C (fun (j : Nat) => (FtW o (a 0) dr (q 0) tx pr se ex) ++ (TabW a cI sd pd rk gp of to n) ++ (SpnW q cI fi la)) (fun (j : Nat) => [(0, .ref (o 0)), (1, .int (nI 2)), (2, .int (nI (j + 1)))]) (fun (j : Nat) => (j ≤ n) ∧ (fstB (brk sd pd rk to fi la n 2) j = 0)) (fun (j : Nat) => n - j) (0) ⟨by omega, rfl⟩ rfl rfl ?_
        rintro j ⟨hj, ha⟩ ih9
        try dsimp only
        refine V.iload_n C (n := 10) (j := 2) d_F_check_9 rfl rfl rfl ?_
        refine V.aload_n C (n := 11) (j := 0) d_F_check_10 rfl rfl rfl ?_
        refine V.get C (n := 14) (q0 := 0) (k0 := 0) clOk_0 rfl (by decide) rfl fl_F_10 rfl d_F_check_11 rfl ?_
        refine V.callV_i C (n := 17) (ws' := (FtW o (a 0) dr (q 0) tx pr se ex) ++ (TabW a cI sd pd rk gp of to n) ++ (SpnW q cI fi la)) (c_T_size l D cI cC E (a) (sd) (pd) (rk) (gp) (of) (to) (n) (by first | assumption | omega)) cw_F_127 [1, 2, 3, 4, 5, 6, 7] [0, 8, 9, 10] [0, 4, 5, 6, 7, 8, 9, 10, 1, 2, 3] (qr := 0) rfl rfl rfl (of_decide_eq_true rfl) rfl (of_decide_eq_true rfl) rfl (of_decide_eq_true rfl) rfl (of_decide_eq_true rfl) rfl ⟨rfl, rfl⟩ ⟨by decide, by decide⟩ ⟨by decide, by decide⟩ rfl rfl (of_decide_eq_true rfl) d_F_check_14 rfl ?_
        refine V.icmpn_gt C (tgt := 43) (n := 20) (by omega) (by omega) d_F_check_17 (by decide) rfl (fun c17_4 => ?_) (fun c17_4 => ?_)
        · have hr2 : fstB (brk sd pd rk to fi la n 2) n = 0 := by have e := (show j = n by omega); rw [e] at ha; exact ha
          refine V.iinc C (n := 46) (j := 1) (v := nI 3) (lv' := [(0, .ref (o 0)), (1, .int (nI 3)), (2, .int (nI (j + 1)))]) [1, 0, 2] d_F_check_43 rfl (by decide) (by decide) rfl rfl ?_
          refine V.goto C (n := 2) d_F_check_46 (by decide) ?_
          refine V.iload_n C (n := 3) (j := 1) d_F_check_2 rfl rfl rfl ?_
          refine V.iconst C (v := nI 4) (n := 4) d_F_check_3 (by decide) rfl ?_
          refine V.icmpn_gt C (tgt := 49) (n := 7) (by omega) (by omega) d_F_check_4 (by decide) rfl (fun c4_5 => ?_) (fun c4_5 => ?_)
          · exact absurd c4_5 (by decide)
          · refine V.iconst C (v := nI 1) (n := 8) d_F_check_7 (by decide) rfl ?_
            refine V.istore_n C (n := 9) (lv' := [(0, .ref (o 0)), (1, .int (nI 3)), (2, .int (nI 1))]) [1, 2, 0] d_F_check_8 rfl (by decide) rfl rfl ?_
            refine V.ind1 C (fun (j : Nat) => (FtW o (a 0) dr (q 0) tx pr se ex) ++ (TabW a cI sd pd rk gp of to n) ++ (SpnW q cI fi la)) (fun (j : Nat) => [(0, .ref (o 0)), (1, .int (nI 3)), (2, .int (nI (j + 1)))]) (fun (j : Nat) => (j ≤ n) ∧ (fstB (brk sd pd rk to fi la n 3) j = 0)) (fun (j : Nat) => n - j) (0) ⟨by omega, rfl⟩ rfl rfl ?_
            rintro j ⟨hj, ha⟩ ih9
            try dsimp only
            refine V.iload_n C (n := 10) (j := 2) d_F_check_9 rfl rfl rfl ?_
            refine V.aload_n C (n := 11) (j := 0) d_F_check_10 rfl rfl rfl ?_
            refine V.get C (n := 14) (q0 := 0) (k0 := 0) clOk_0 rfl (by decide) rfl fl_F_10 rfl d_F_check_11 rfl ?_
            refine V.callV_i C (n := 17) (ws' := (FtW o (a 0) dr (q 0) tx pr se ex) ++ (TabW a cI sd pd rk gp of to n) ++ (SpnW q cI fi la)) (c_T_size l D cI cC E (a) (sd) (pd) (rk) (gp) (of) (to) (n) (by first | assumption | omega)) cw_F_127 [1, 2, 3, 4, 5, 6, 7] [0, 8, 9, 10] [0, 4, 5, 6, 7, 8, 9, 10, 1, 2, 3] (qr := 0) rfl rfl rfl (of_decide_eq_true rfl) rfl (of_decide_eq_true rfl) rfl (of_decide_eq_true rfl) rfl (of_decide_eq_true rfl) rfl ⟨rfl, rfl⟩ ⟨by decide, by decide⟩ ⟨by decide, by decide⟩ rfl rfl (of_decide_eq_true rfl) d_F_check_14 rfl ?_
            refine V.icmpn_gt C (tgt := 43) (n := 20) (by omega) (by omega) d_F_check_17 (by decide) rfl (fun c17_6 => ?_) (fun c17_6 => ?_)
            · have hr3 : fstB (brk sd pd rk to fi la n 3) n = 0 := by have e := (show j = n by omega); rw [e] at ha; exact ha
              refine V.iinc C (n := 46) (j := 1) (v := nI 4) (lv' := [(0, .ref (o 0)), (1, .int (nI 4)), (2, .int (nI (j + 1)))]) [1, 0, 2] d_F_check_43 rfl (by decide) (by decide) rfl rfl ?_
              refine V.goto C (n := 2) d_F_check_46 (by decide) ?_
              refine V.iload_n C (n := 3) (j := 1) d_F_check_2 rfl rfl rfl ?_
              refine V.iconst C (v := nI 4) (n := 4) d_F_check_3 (by decide) rfl ?_
              refine V.icmpn_gt C (tgt := 49) (n := 7) (by omega) (by omega) d_F_check_4 (by decide) rfl (fun c4_7 => ?_) (fun c4_7 => ?_)
              · exact absurd c4_7 (by decide)
              · refine V.iconst C (v := nI 1) (n := 8) d_F_check_7 (by decide) rfl ?_
                refine V.istore_n C (n := 9) (lv' := [(0, .ref (o 0)), (1, .int (nI 4)), (2, .int (nI 1))]) [1, 2, 0] d_F_check_8 rfl (by decide) rfl rfl ?_
                refine V.ind1 C (fun (j : Nat) => (FtW o (a 0) dr (q 0) tx pr se ex) ++ (TabW a cI sd pd rk gp of to n) ++ (SpnW q cI fi la)) (fun (j : Nat) => [(0, .ref (o 0)), (1, .int (nI 4)), (2, .int (nI (j + 1)))]) (fun (j : Nat) => (j ≤ n) ∧ (fstB (brk sd pd rk to fi la n 4) j = 0)) (fun (j : Nat) => n - j) (0) ⟨by omega, rfl⟩ rfl rfl ?_
                rintro j ⟨hj, ha⟩ ih9
                try dsimp only
                refine V.iload_n C (n := 10) (j := 2) d_F_check_9 rfl rfl rfl ?_
                refine V.aload_n C (n := 11) (j := 0) d_F_check_10 rfl rfl rfl ?_
                refine V.get C (n := 14) (q0 := 0) (k0 := 0) clOk_0 rfl (by decide) rfl fl_F_10 rfl d_F_check_11 rfl ?_
                refine V.callV_i C (n := 17) (ws' := (FtW o (a 0) dr (q 0) tx pr se ex) ++ (TabW a cI sd pd rk gp of to n) ++ (SpnW q cI fi la)) (c_T_size l D cI cC E (a) (sd) (pd) (rk) (gp) (of) (to) (n) (by first | assumption | omega)) cw_F_127 [1, 2, 3, 4, 5, 6, 7] [0, 8, 9, 10] [0, 4, 5, 6, 7, 8, 9, 10, 1, 2, 3] (qr := 0) rfl rfl rfl (of_decide_eq_true rfl) rfl (of_decide_eq_true rfl) rfl (of_decide_eq_true rfl) rfl (of_decide_eq_true rfl) rfl ⟨rfl, rfl⟩ ⟨by decide, by decide⟩ ⟨by decide, by decide⟩ rfl rfl (of_decide_eq_true rfl) d_F_check_14 rfl ?_
                refine V.icmpn_gt C (tgt := 43) (n := 20) (by omega) (by omega) d_F_check_17 (by decide) rfl (fun c17_8 => ?_) (fun c17_8 => ?_)
                · have hr4 : fstB (brk sd pd rk to fi la n 4) n = 0 := by have e := (show j = n by omega); rw [e] at ha; exact ha
                  refine V.iinc C (n := 46) (j := 1) (v := nI 5) (lv' := [(0, .ref (o 0)), (1, .int (nI 5)), (2, .int (nI (j + 1)))]) [1, 0, 2] d_F_check_43 rfl (by decide) (by decide) rfl rfl ?_
                  refine V.goto C (n := 2) d_F_check_46 (by decide) ?_
                  refine V.iload_n C (n := 3) (j := 1) d_F_check_2 rfl rfl rfl ?_
                  refine V.iconst C (v := nI 4) (n := 4) d_F_check_3 (by decide) rfl ?_
                  refine V.icmpn_gt C (tgt := 49) (n := 7) (by omega) (by omega) d_F_check_4 (by decide) rfl (fun c4_9 => ?_) (fun c4_9 => ?_)
                  · refine V.iconst C (v := nI 0) (n := 50) d_F_check_49 (by decide) rfl ?_
                    exact V.iret C hr d_F_check_50 (by rw [chk, if_neg (by rw [hr1]; decide), if_neg (by rw [hr2]; decide), if_neg (by rw [hr3]; decide), if_neg (by rw [hr4]; decide)]; try rfl) (rfl)
                  · exact absurd c4_9 (by decide)
                · refine V.aload_n C (n := 21) (j := 0) d_F_check_20 rfl rfl rfl ?_
                  refine V.iload_n C (n := 22) (j := 1) d_F_check_21 rfl rfl rfl ?_
                  refine V.iload_n C (n := 23) (j := 2) d_F_check_22 rfl rfl rfl ?_
                  refine V.callV_i C (n := 26) (ws' := (FtW o (a 0) dr (q 0) tx pr se ex) ++ (TabW a cI sd pd rk gp of to n) ++ (SpnW q cI fi la)) (c_F_breaks_4 l D cI cC E (o) (a) (q) (dr) (tx) (pr) (se) (ex) (sd) (pd) (rk) (gp) (of) (to) (n) (fi) (la) (j + 1) (by first | assumption | omega) (by first | assumption | omega) (by first | assumption | omega)) cw_F_131 [0, 1, 2, 3, 4, 5, 6, 7, 8, 9, 10] [] [0, 1, 2, 3, 4, 5, 6, 7, 8, 9, 10] (qr := 0) rfl rfl rfl (of_decide_eq_true rfl) rfl (of_decide_eq_true rfl) rfl (of_decide_eq_true rfl) rfl (of_decide_eq_true rfl) rfl ⟨rfl, rfl⟩ ⟨by decide, by decide⟩ ⟨by decide, by decide⟩ rfl rfl (of_decide_eq_true rfl) d_F_check_23 rfl ?_
                  refine V.ifb_eq C (tgt := 37) (n := 29) d_F_check_26 (by decide) rfl (fun c26_10 => ?_) (fun c26_10 => ?_)
                  · refine V.iinc C (n := 40) (j := 2) (v := nI (j + 1 + 1)) (lv' := [(0, .ref (o 0)), (1, .int (nI 4)), (2, .int (nI (j + 1 + 1)))]) [1, 2, 0] d_F_check_37 rfl (nI_inc (j + 1) 1) (by decide) rfl rfl ?_
                    refine V.goto C (n := 9) d_F_check_40 (by decide) ?_
                    exact ih9 (j + 1) ⟨by omega, fstB_miss ha (by assumption)⟩ (by omega)
                  · refine V.sipush C (v := nI 1000) (n := 32) d_F_check_29 (by decide) rfl ?_
                    refine V.iload_n C (n := 33) (j := 1) d_F_check_32 rfl rfl rfl ?_
                    refine V.imul_n C (n := 34) d_F_check_33 rfl ?_
                    refine V.iload_n C (n := 35) (j := 2) d_F_check_34 rfl rfl rfl ?_
                    refine V.iadd_n C (n := 36) d_F_check_35 rfl ?_
                    exact V.iret C hr d_F_check_36 (by have e9 := fstB_hit (p := brk sd pd rk to fi la n 4) (m := n) (j := j) (by omega) ha (by assumption); rw [chk, if_neg (by rw [hr1]; decide), if_neg (by rw [hr2]; decide), if_neg (by rw [hr3]; decide), if_pos (by rw [e9]; omega), e9]; try rfl) (rfl)
            · refine V.aload_n C (n := 21) (j := 0) d_F_check_20 rfl rfl rfl ?_
              refine V.iload_n C (n := 22) (j := 1) d_F_check_21 rfl rfl rfl ?_
              refine V.iload_n C (n := 23) (j := 2) d_F_check_22 rfl rfl rfl ?_
              refine V.callV_i C (n := 26) (ws' := (FtW o (a 0) dr (q 0) tx pr se ex) ++ (TabW a cI sd pd rk gp of to n) ++ (SpnW q cI fi la)) (c_F_breaks_3 l D cI cC E (o) (a) (q) (dr) (tx) (pr) (se) (ex) (sd) (pd) (rk) (gp) (of) (to) (n) (fi) (la) (j + 1) (by first | assumption | omega) (by first | assumption | omega) (by first | assumption | omega)) cw_F_131 [0, 1, 2, 3, 4, 5, 6, 7, 8, 9, 10] [] [0, 1, 2, 3, 4, 5, 6, 7, 8, 9, 10] (qr := 0) rfl rfl rfl (of_decide_eq_true rfl) rfl (of_decide_eq_true rfl) rfl (of_decide_eq_true rfl) rfl (of_decide_eq_true rfl) rfl ⟨rfl, rfl⟩ ⟨by decide, by decide⟩ ⟨by decide, by decide⟩ rfl rfl (of_decide_eq_true rfl) d_F_check_23 rfl ?_
              refine V.ifb_eq C (tgt := 37) (n := 29) d_F_check_26 (by decide) rfl (fun c26_11 => ?_) (fun c26_11 => ?_)
              · refine V.iinc C (n := 40) (j := 2) (v := nI (j + 1 + 1)) (lv' := [(0, .ref (o 0)), (1, .int (nI 3)), (2, .int (nI (j + 1 + 1)))]) [1, 2, 0] d_F_check_37 rfl (nI_inc (j + 1) 1) (by decide) rfl rfl ?_
                refine V.goto C (n := 9) d_F_check_40 (by decide) ?_
                exact ih9 (j + 1) ⟨by omega, fstB_miss ha (by assumption)⟩ (by omega)
              · refine V.sipush C (v := nI 1000) (n := 32) d_F_check_29 (by decide) rfl ?_
                refine V.iload_n C (n := 33) (j := 1) d_F_check_32 rfl rfl rfl ?_
                refine V.imul_n C (n := 34) d_F_check_33 rfl ?_
                refine V.iload_n C (n := 35) (j := 2) d_F_check_34 rfl rfl rfl ?_
                refine V.iadd_n C (n := 36) d_F_check_35 rfl ?_
                exact V.iret C hr d_F_check_36 (by have e9 := fstB_hit (p := brk sd pd rk to fi la n 3) (m := n) (j := j) (by omega) ha (by assumption); rw [chk, if_neg (by rw [hr1]; decide), if_neg (by rw [hr2]; decide), if_pos (by rw [e9]; omega), e9]; try rfl) (rfl)
        · refine V.aload_n C (n := 21) (j := 0) d_F_check_20 rfl rfl rfl ?_
          refine V.iload_n C (n := 22) (j := 1) d_F_check_21 rfl rfl rfl ?_
          refine V.iload_n C (n := 23) (j := 2) d_F_check_22 rfl rfl rfl ?_
          refine V.callV_i C (n := 26) (ws' := (FtW o (a 0) dr (q 0) tx pr se ex) ++ (TabW a cI sd pd rk gp of to n) ++ (SpnW q cI fi la)) (c_F_breaks_2 l D cI cC E (o) (a) (q) (dr) (tx) (pr) (se) (ex) (sd) (pd) (rk) (gp) (of) (to) (n) (fi) (la) (j + 1) (by first | assumption | omega) (by first | assumption | omega) (by first | assumption | omega)) cw_F_131 [0, 1, 2, 3, 4, 5, 6, 7, 8, 9, 10] [] [0, 1, 2, 3, 4, 5, 6, 7, 8, 9, 10] (qr := 0) rfl rfl rfl (of_decide_eq_true rfl) rfl (of_decide_eq_true rfl) rfl (of_decide_eq_true rfl) rfl (of_decide_eq_true rfl) rfl ⟨rfl, rfl⟩ ⟨by decide, by decide⟩ ⟨by decide, by decide⟩ rfl rfl (of_decide_eq_true rfl) d_F_check_23 rfl ?_
          refine V.ifb_eq C (tgt := 37) (n := 29) d_F_check_26 (by decide) rfl (fun c26_12 => ?_) (fun c26_12 => ?_)
          · refine V.iinc C (n := 40) (j := 2) (v := nI (j + 1 + 1)) (lv' := [(0, .ref (o 0)), (1, .int (nI 2)), (2, .int (nI (j + 1 + 1)))]) [1, 2, 0] d_F_check_37 rfl (nI_inc (j + 1) 1) (by decide) rfl rfl ?_
            refine V.goto C (n := 9) d_F_check_40 (by decide) ?_
            exact ih9 (j + 1) ⟨by omega, fstB_miss ha (by assumption)⟩ (by omega)
          · refine V.sipush C (v := nI 1000) (n := 32) d_F_check_29 (by decide) rfl ?_
            refine V.iload_n C (n := 33) (j := 1) d_F_check_32 rfl rfl rfl ?_
            refine V.imul_n C (n := 34) d_F_check_33 rfl ?_
            refine V.iload_n C (n := 35) (j := 2) d_F_check_34 rfl rfl rfl ?_
            refine V.iadd_n C (n := 36) d_F_check_35 rfl ?_
            exact V.iret C hr d_F_check_36 (by have e9 := fstB_hit (p := brk sd pd rk to fi la n 2) (m := n) (j := j) (by omega) ha (by assumption); rw [chk, if_neg (by rw [hr1]; decide), if_pos (by rw [e9]; omega), e9]; try rfl) (rfl)
    · refine V.aload_n C (n := 21) (j := 0) d_F_check_20 rfl rfl rfl ?_
      refine V.iload_n C (n := 22) (j := 1) d_F_check_21 rfl rfl rfl ?_
      refine V.iload_n C (n := 23) (j := 2) d_F_check_22 rfl rfl rfl ?_
      refine V.callV_i C (n := 26) (ws' := (FtW o (a 0) dr (q 0) tx pr se ex) ++ (TabW a cI sd pd rk gp of to n) ++ (SpnW q cI fi la)) (c_F_breaks_1 l D cI cC E (o) (a) (q) (dr) (tx) (pr) (se) (ex) (sd) (pd) (rk) (gp) (of) (to) (n) (fi) (la) (j + 1) (by first | assumption | omega) (by first | assumption | omega) (by first | assumption | omega)) cw_F_131 [0, 1, 2, 3, 4, 5, 6, 7, 8, 9, 10] [] [0, 1, 2, 3, 4, 5, 6, 7, 8, 9, 10] (qr := 0) rfl rfl rfl (of_decide_eq_true rfl) rfl (of_decide_eq_true rfl) rfl (of_decide_eq_true rfl) rfl (of_decide_eq_true rfl) rfl ⟨rfl, rfl⟩ ⟨by decide, by decide⟩ ⟨by decide, by decide⟩ rfl rfl (of_decide_eq_true rfl) d_F_check_23 rfl ?_
      refine V.ifb_eq C (tgt := 37) (n := 29) d_F_check_26 (by decide) rfl (fun c26_13 => ?_) (fun c26_13 => ?_)
      · refine V.iinc C (n := 40) (j := 2) (v := nI (j + 1 + 1)) (lv' := [(0, .ref (o 0)), (1, .int (nI 1)), (2, .int (nI (j + 1 + 1)))]) [1, 2, 0] d_F_check_37 rfl (nI_inc (j + 1) 1) (by decide) rfl rfl ?_
        refine V.goto C (n := 9) d_F_check_40 (by decide) ?_
        exact ih9 (j + 1) ⟨by omega, fstB_miss ha (by assumption)⟩ (by omega)
      · refine V.sipush C (v := nI 1000) (n := 32) d_F_check_29 (by decide) rfl ?_
        refine V.iload_n C (n := 33) (j := 1) d_F_check_32 rfl rfl rfl ?_
        refine V.imul_n C (n := 34) d_F_check_33 rfl ?_
        refine V.iload_n C (n := 35) (j := 2) d_F_check_34 rfl rfl rfl ?_
        refine V.iadd_n C (n := 36) d_F_check_35 rfl ?_
        exact V.iret C hr d_F_check_36 (by have e9 := fstB_hit (p := brk sd pd rk to fi la n 1) (m := n) (j := j) (by omega) ha (by assumption); rw [chk, if_pos (by rw [e9]; omega), e9]; try rfl) (rfl)
set_option maxHeartbeats 4000000 in
set_option maxRecDepth 100000 in
theorem c_F_letter (l : Launch) (D : va_G) (cI cC : ClassId) (E : Nat → Nat) (o x : Nat → Nat) (ta dr sp pr se : Nat) (ex : Bool) (sg : Nat → Nat) (ln : Nat) (lo : Bool) (X : Int) (hX0 : TxtOK sg ln) (hX : -2147483648 ≤ X ∧ X < 2147483648) : CI l D (TY cI cC E) m_F_letter (rmD 1) [.ref (o 0), .int (iI (X))] ((FtW o ta dr sp (x 0) pr se ex) ++ (TxtW x cC sg ln lo)) (iI (sgAt sg ln X)) ((FtW o ta dr sp (x 0) pr se ex) ++ (TxtW x cC sg ln lo)) := by
  refine CI.of (by decide +kernel) (of_decide_eq_true rfl) ?_
  intro p e s m args below meth c C hr
  refine V.aload_n C (n := 1) (j := 0) d_F_letter_0 rfl rfl rfl ?_
  refine V.get C (n := 4) (q0 := 0) (k0 := 3) clOk_0 rfl (by decide) rfl fl_F_29 rfl d_F_letter_1 rfl ?_
  refine V.iload_n C (n := 5) (j := 1) d_F_letter_4 rfl rfl rfl ?_
  refine V.callV_i C (n := 8) (ws' := (FtW o ta dr sp (x 0) pr se ex) ++ (TxtW x cC sg ln lo)) (c_X_signAt l D cI cC E (x) (sg) (ln) (lo) (X) (by first | assumption | omega) (by first | assumption | omega)) cw_F_155 [1, 2] [0] [0, 1, 2] (qr := 0) rfl rfl rfl (of_decide_eq_true rfl) rfl (of_decide_eq_true rfl) rfl (of_decide_eq_true rfl) rfl (of_decide_eq_true rfl) rfl ⟨rfl, rfl⟩ ⟨by decide, by decide⟩ ⟨by decide, by decide⟩ rfl rfl (of_decide_eq_true rfl) d_F_letter_5 rfl ?_
  have hsa := sgAt_rng hX0 X
  refine V.istore_n C (n := 9) (lv' := [(0, .ref (o 0)), (1, .int (iI (X))), (2, .int (iI (sgAt sg ln X)))]) [1, 2, 0] d_F_letter_8 rfl (by decide) rfl rfl ?_
  refine V.iload_n C (n := 10) (j := 2) d_F_letter_9 rfl rfl rfl ?_
  refine V.iconst C (v := iI (-1)) (n := 11) d_F_letter_10 (by decide) rfl ?_
  refine V.icmp_ne C (tgt := 18) (n := 14) (iI_toInt (by omega) (by omega)) (iI_toInt (by omega) (by omega)) d_F_letter_11 (by decide) rfl (fun c11_1 => ?_) (fun c11_1 => ?_)
  · refine V.iload_n C (n := 19) (j := 2) d_F_letter_18 rfl rfl rfl ?_
    exact V.iret C hr d_F_letter_19 (rfl) (rfl)
  · refine V.iconst C (v := iI (-1)) (n := 15) d_F_letter_14 (by decide) rfl ?_
    refine V.goto C (n := 19) d_F_letter_15 (by decide) ?_
    exact V.iret C hr d_F_letter_19 (by rw [show sgAt sg ln X = -1 by assumption]) (rfl)
set_option maxHeartbeats 4000000 in
set_option maxRecDepth 100000 in
theorem c_F_sign (l : Launch) (D : va_G) (cI cC : ClassId) (E : Nat → Nat) (o x : Nat → Nat) (ta dr sp pr se : Nat) (ex : Bool) (sg : Nat → Nat) (ln : Nat) (lo : Bool) (xv : Int32) (hX0 : TxtOK sg ln) : CV l D (TY cI cC E) m_F_sign (rmD 1) [.ref (o 0), .int (xv)] ((FtW o ta dr sp (x 0) pr se ex) ++ (TxtW x cC sg ln lo)) ((FtW o ta dr sp (x 0) pr se ex) ++ (TxtW x cC ((sgnX (sg, ln, lo) xv.toBitVec.toNat).1) ((sgnX (sg, ln, lo) xv.toBitVec.toNat).2.1) ((sgnX (sg, ln, lo) xv.toBitVec.toNat).2.2))) := by
  refine CN.of (by decide +kernel) (of_decide_eq_true rfl) ?_
  intro p e s m args below meth c C hr hin
  refine V.bipush C (v := nI 24) (n := 2) d_F_sign_0 (by decide) rfl ?_
  refine V.istore_n C (n := 3) (lv' := [(0, .ref (o 0)), (1, .int (xv)), (2, .int (nI 24))]) [1, 2, 0] d_F_sign_2 rfl (by decide) rfl rfl ?_
  refine V.iload_n C (n := 4) (j := 2) d_F_sign_3 rfl rfl rfl ?_
  refine V.ifn_lt C (tgt := 34) (n := 7) (by omega) d_F_sign_4 (by decide) rfl (fun c4_1 => ?_) (fun c4_1 => ?_)
  · exact absurd c4_1 (by decide)
  · refine V.iload_n C (n := 8) (j := 1) d_F_sign_7 rfl rfl rfl ?_
    refine V.iload_n C (n := 9) (j := 2) d_F_sign_8 rfl rfl rfl ?_
    refine V.iushr_r C (n := 10) d_F_sign_9 rfl rfl ?_
    refine V.sipush C (v := nI 255) (n := 13) d_F_sign_10 (by decide) rfl ?_
    refine V.iand_r C (n := 14) (v := nI (xv.toBitVec.toNat / 2 ^ 24 % 256)) d_F_sign_13 (oct_eq xv _ 24 (by decide)) rfl ?_
    refine V.istore_n C (n := 15) (lv' := [(0, .ref (o 0)), (1, .int (xv)), (2, .int (nI 24)), (3, .int (nI (xv.toBitVec.toNat / 2 ^ 24 % 256)))]) [1, 2, 3, 0] d_F_sign_14 rfl (by decide) rfl rfl ?_
    refine V.join C (ws9 := (FtW o ta dr sp (x 0) pr se ex) ++ (TxtW x cC ((octX ((sg, ln, lo)) (xv.toBitVec.toNat / 2 ^ 24 % 256)).1) ((octX ((sg, ln, lo)) (xv.toBitVec.toNat / 2 ^ 24 % 256)).2.1) ((octX ((sg, ln, lo)) (xv.toBitVec.toNat / 2 ^ 24 % 256)).2.2))) (lv9 := [(0, .ref (o 0)), (1, .int (xv)), (2, .int (nI 24))]) (n9 := 28) (st9 := []) ?_ (fun hk_1 => ?_)
    · refine V.iinc C (n := 31) (j := 2) (v := nI 16) (lv' := [(0, .ref (o 0)), (1, .int (xv)), (2, .int (nI 16))]) [1, 2, 0] d_F_sign_28 rfl (by decide) (by decide) rfl rfl ?_
      refine V.goto C (n := 3) d_F_sign_31 (by decide) ?_
      refine V.iload_n C (n := 4) (j := 2) d_F_sign_3 rfl rfl rfl ?_
      refine V.ifn_lt C (tgt := 34) (n := 7) (by omega) d_F_sign_4 (by decide) rfl (fun c4_2 => ?_) (fun c4_2 => ?_)
      · exact absurd c4_2 (by decide)
      · refine V.iload_n C (n := 8) (j := 1) d_F_sign_7 rfl rfl rfl ?_
        refine V.iload_n C (n := 9) (j := 2) d_F_sign_8 rfl rfl rfl ?_
        refine V.iushr_r C (n := 10) d_F_sign_9 rfl rfl ?_
        refine V.sipush C (v := nI 255) (n := 13) d_F_sign_10 (by decide) rfl ?_
        refine V.iand_r C (n := 14) (v := nI (xv.toBitVec.toNat / 2 ^ 16 % 256)) d_F_sign_13 (oct_eq xv _ 16 (by decide)) rfl ?_
        refine V.istore_n C (n := 15) (lv' := [(0, .ref (o 0)), (1, .int (xv)), (2, .int (nI 16)), (3, .int (nI (xv.toBitVec.toNat / 2 ^ 16 % 256)))]) [1, 2, 3, 0] d_F_sign_14 rfl (by decide) rfl rfl ?_
        refine V.join C (ws9 := (FtW o ta dr sp (x 0) pr se ex) ++ (TxtW x cC ((octX (octX ((sg, ln, lo)) (xv.toBitVec.toNat / 2 ^ 24 % 256)) (xv.toBitVec.toNat / 2 ^ 16 % 256)).1) ((octX (octX ((sg, ln, lo)) (xv.toBitVec.toNat / 2 ^ 24 % 256)) (xv.toBitVec.toNat / 2 ^ 16 % 256)).2.1) ((octX (octX ((sg, ln, lo)) (xv.toBitVec.toNat / 2 ^ 24 % 256)) (xv.toBitVec.toNat / 2 ^ 16 % 256)).2.2))) (lv9 := [(0, .ref (o 0)), (1, .int (xv)), (2, .int (nI 16))]) (n9 := 28) (st9 := []) ?_ (fun hk_2 => ?_)
        · refine V.iinc C (n := 31) (j := 2) (v := nI 8) (lv' := [(0, .ref (o 0)), (1, .int (xv)), (2, .int (nI 8))]) [1, 2, 0] d_F_sign_28 rfl (by decide) (by decide) rfl rfl ?_
          refine V.goto C (n := 3) d_F_sign_31 (by decide) ?_
          refine V.iload_n C (n := 4) (j := 2) d_F_sign_3 rfl rfl rfl ?_
          refine V.ifn_lt C (tgt := 34) (n := 7) (by omega) d_F_sign_4 (by decide) rfl (fun c4_3 => ?_) (fun c4_3 => ?_)
          · exact absurd c4_3 (by decide)
          · refine V.iload_n C (n := 8) (j := 1) d_F_sign_7 rfl rfl rfl ?_
            refine V.iload_n C (n := 9) (j := 2) d_F_sign_8 rfl rfl rfl ?_
            refine V.iushr_r C (n := 10) d_F_sign_9 rfl rfl ?_
            refine V.sipush C (v := nI 255) (n := 13) d_F_sign_10 (by decide) rfl ?_
            refine V.iand_r C (n := 14) (v := nI (xv.toBitVec.toNat / 2 ^ 8 % 256)) d_F_sign_13 (oct_eq xv _ 8 (by decide)) rfl ?_
            refine V.istore_n C (n := 15) (lv' := [(0, .ref (o 0)), (1, .int (xv)), (2, .int (nI 8)), (3, .int (nI (xv.toBitVec.toNat / 2 ^ 8 % 256)))]) [1, 2, 3, 0] d_F_sign_14 rfl (by decide) rfl rfl ?_
            refine V.join C (ws9 := (FtW o ta dr sp (x 0) pr se ex) ++ (TxtW x cC ((octX (octX (octX ((sg, ln, lo)) (xv.toBitVec.toNat / 2 ^ 24 % 256)) (xv.toBitVec.toNat / 2 ^ 16 % 256)) (xv.toBitVec.toNat / 2 ^ 8 % 256)).1) ((octX (octX (octX ((sg, ln, lo)) (xv.toBitVec.toNat / 2 ^ 24 % 256)) (xv.toBitVec.toNat / 2 ^ 16 % 256)) (xv.toBitVec.toNat / 2 ^ 8 % 256)).2.1) ((octX (octX (octX ((sg, ln, lo)) (xv.toBitVec.toNat / 2 ^ 24 % 256)) (xv.toBitVec.toNat / 2 ^ 16 % 256)) (xv.toBitVec.toNat / 2 ^ 8 % 256)).2.2))) (lv9 := [(0, .ref (o 0)), (1, .int (xv)), (2, .int (nI 8))]) (n9 := 28) (st9 := []) ?_ (fun hk_3 => ?_)
            · refine V.iinc C (n := 31) (j := 2) (v := nI 0) (lv' := [(0, .ref (o 0)), (1, .int (xv)), (2, .int (nI 0))]) [1, 2, 0] d_F_sign_28 rfl (by decide) (by decide) rfl rfl ?_
              refine V.goto C (n := 3) d_F_sign_31 (by decide) ?_
              refine V.iload_n C (n := 4) (j := 2) d_F_sign_3 rfl rfl rfl ?_
              refine V.ifn_lt C (tgt := 34) (n := 7) (by omega) d_F_sign_4 (by decide) rfl (fun c4_4 => ?_) (fun c4_4 => ?_)
              · exact absurd c4_4 (by decide)
              · refine V.iload_n C (n := 8) (j := 1) d_F_sign_7 rfl rfl rfl ?_
                refine V.iload_n C (n := 9) (j := 2) d_F_sign_8 rfl rfl rfl ?_
                refine V.iushr_r C (n := 10) d_F_sign_9 rfl rfl ?_
                refine V.sipush C (v := nI 255) (n := 13) d_F_sign_10 (by decide) rfl ?_
                refine V.iand_r C (n := 14) (v := nI (xv.toBitVec.toNat / 2 ^ 0 % 256)) d_F_sign_13 (oct_eq xv _ 0 (by decide)) rfl ?_
                refine V.istore_n C (n := 15) (lv' := [(0, .ref (o 0)), (1, .int (xv)), (2, .int (nI 0)), (3, .int (nI (xv.toBitVec.toNat / 2 ^ 0 % 256)))]) [1, 2, 3, 0] d_F_sign_14 rfl (by decide) rfl rfl ?_
                refine V.join C (ws9 := (FtW o ta dr sp (x 0) pr se ex) ++ (TxtW x cC ((octX (octX (octX (octX ((sg, ln, lo)) (xv.toBitVec.toNat / 2 ^ 24 % 256)) (xv.toBitVec.toNat / 2 ^ 16 % 256)) (xv.toBitVec.toNat / 2 ^ 8 % 256)) (xv.toBitVec.toNat / 2 ^ 0 % 256)).1) ((octX (octX (octX (octX ((sg, ln, lo)) (xv.toBitVec.toNat / 2 ^ 24 % 256)) (xv.toBitVec.toNat / 2 ^ 16 % 256)) (xv.toBitVec.toNat / 2 ^ 8 % 256)) (xv.toBitVec.toNat / 2 ^ 0 % 256)).2.1) ((octX (octX (octX (octX ((sg, ln, lo)) (xv.toBitVec.toNat / 2 ^ 24 % 256)) (xv.toBitVec.toNat / 2 ^ 16 % 256)) (xv.toBitVec.toNat / 2 ^ 8 % 256)) (xv.toBitVec.toNat / 2 ^ 0 % 256)).2.2))) (lv9 := [(0, .ref (o 0)), (1, .int (xv)), (2, .int (nI 0))]) (n9 := 28) (st9 := []) ?_ (fun hk_4 => ?_)
                · refine V.iinc C (n := 31) (j := 2) (v := iI (-8)) (lv' := [(0, .ref (o 0)), (1, .int (xv)), (2, .int (iI (-8)))]) [1, 2, 0] d_F_sign_28 rfl (by decide) (by decide) rfl rfl ?_
                  refine V.goto C (n := 3) d_F_sign_31 (by decide) ?_
                  refine V.iload_n C (n := 4) (j := 2) d_F_sign_3 rfl rfl rfl ?_
                  refine V.if_lt C (tgt := 34) (n := 7) (iI_toInt (by omega) (by omega)) d_F_sign_4 (by decide) rfl (fun c4_5 => ?_) (fun c4_5 => ?_)
                  · exact V.vret C hr d_F_sign_34 () (trivial) (rfl)
                  · exact absurd c4_5 (by decide)
                · refine V.iload_n C (n := 16) (j := 3) d_F_sign_15 rfl rfl rfl ?_
                  refine V.ifn_eq C (tgt := 28) (n := 19) (by omega) d_F_sign_16 (by decide) rfl (fun c16_6 => ?_) (fun c16_6 => ?_)
                  · refine V.lsub C [0, 1, 2] (lv' := [(0, .ref (o 0)), (1, .int (xv)), (2, .int (nI 0))]) rfl ?_
                    refine V.wo C (ws' := (FtW o ta dr sp (x 0) pr se ex) ++ (TxtW x cC ((octX (octX (octX (octX ((sg, ln, lo)) (xv.toBitVec.toNat / 2 ^ 24 % 256)) (xv.toBitVec.toNat / 2 ^ 16 % 256)) (xv.toBitVec.toNat / 2 ^ 8 % 256)) (xv.toBitVec.toNat / 2 ^ 0 % 256)).1) ((octX (octX (octX (octX ((sg, ln, lo)) (xv.toBitVec.toNat / 2 ^ 24 % 256)) (xv.toBitVec.toNat / 2 ^ 16 % 256)) (xv.toBitVec.toNat / 2 ^ 8 % 256)) (xv.toBitVec.toNat / 2 ^ 0 % 256)).2.1) ((octX (octX (octX (octX ((sg, ln, lo)) (xv.toBitVec.toNat / 2 ^ 24 % 256)) (xv.toBitVec.toNat / 2 ^ 16 % 256)) (xv.toBitVec.toNat / 2 ^ 8 % 256)) (xv.toBitVec.toNat / 2 ^ 0 % 256)).2.2))) (by first | (rw [octX_0 (t := octX (octX (octX ((sg, ln, lo)) (xv.toBitVec.toNat / 2 ^ 24 % 256)) (xv.toBitVec.toNat / 2 ^ 16 % 256)) (xv.toBitVec.toNat / 2 ^ 8 % 256)) (o := xv.toBitVec.toNat / 2 ^ 0 % 256) (by omega)]; try rfl) | (rw [octX_1 (t := octX (octX (octX ((sg, ln, lo)) (xv.toBitVec.toNat / 2 ^ 24 % 256)) (xv.toBitVec.toNat / 2 ^ 16 % 256)) (xv.toBitVec.toNat / 2 ^ 8 % 256)) (o := xv.toBitVec.toNat / 2 ^ 0 % 256) (by omega)]; try rfl)) ?_
                    exact hk_4
                  · refine V.aload_n C (n := 20) (j := 0) d_F_sign_19 rfl rfl rfl ?_
                    refine V.get C (n := 23) (q0 := 0) (k0 := 3) clOk_0 rfl (by decide) rfl fl_F_29 rfl d_F_sign_20 rfl ?_
                    refine V.iload_n C (n := 24) (j := 3) d_F_sign_23 rfl rfl rfl ?_
                    refine V.i2c_n C (n := 25) (by omega) d_F_sign_24 rfl ?_
                    refine V.callV_v C (n := 28) (ws2 := fun _ => (FtW o ta dr sp (x 0) pr se ex) ++ (TxtW x cC ((addX (((octX (octX (octX ((sg, ln, lo)) (xv.toBitVec.toNat / 2 ^ 24 % 256)) (xv.toBitVec.toNat / 2 ^ 16 % 256)) (xv.toBitVec.toNat / 2 ^ 8 % 256)).1), ((octX (octX (octX ((sg, ln, lo)) (xv.toBitVec.toNat / 2 ^ 24 % 256)) (xv.toBitVec.toNat / 2 ^ 16 % 256)) (xv.toBitVec.toNat / 2 ^ 8 % 256)).2.1), ((octX (octX (octX ((sg, ln, lo)) (xv.toBitVec.toNat / 2 ^ 24 % 256)) (xv.toBitVec.toNat / 2 ^ 16 % 256)) (xv.toBitVec.toNat / 2 ^ 8 % 256)).2.2)) (xv.toBitVec.toNat / 2 ^ 0 % 256)).1) ((addX (((octX (octX (octX ((sg, ln, lo)) (xv.toBitVec.toNat / 2 ^ 24 % 256)) (xv.toBitVec.toNat / 2 ^ 16 % 256)) (xv.toBitVec.toNat / 2 ^ 8 % 256)).1), ((octX (octX (octX ((sg, ln, lo)) (xv.toBitVec.toNat / 2 ^ 24 % 256)) (xv.toBitVec.toNat / 2 ^ 16 % 256)) (xv.toBitVec.toNat / 2 ^ 8 % 256)).2.1), ((octX (octX (octX ((sg, ln, lo)) (xv.toBitVec.toNat / 2 ^ 24 % 256)) (xv.toBitVec.toNat / 2 ^ 16 % 256)) (xv.toBitVec.toNat / 2 ^ 8 % 256)).2.2)) (xv.toBitVec.toNat / 2 ^ 0 % 256)).2.1) ((addX (((octX (octX (octX ((sg, ln, lo)) (xv.toBitVec.toNat / 2 ^ 24 % 256)) (xv.toBitVec.toNat / 2 ^ 16 % 256)) (xv.toBitVec.toNat / 2 ^ 8 % 256)).1), ((octX (octX (octX ((sg, ln, lo)) (xv.toBitVec.toNat / 2 ^ 24 % 256)) (xv.toBitVec.toNat / 2 ^ 16 % 256)) (xv.toBitVec.toNat / 2 ^ 8 % 256)).2.1), ((octX (octX (octX ((sg, ln, lo)) (xv.toBitVec.toNat / 2 ^ 24 % 256)) (xv.toBitVec.toNat / 2 ^ 16 % 256)) (xv.toBitVec.toNat / 2 ^ 8 % 256)).2.2)) (xv.toBitVec.toNat / 2 ^ 0 % 256)).2.2))) (c_X_add l D cI cC E (x) ((octX (octX (octX ((sg, ln, lo)) (xv.toBitVec.toNat / 2 ^ 24 % 256)) (xv.toBitVec.toNat / 2 ^ 16 % 256)) (xv.toBitVec.toNat / 2 ^ 8 % 256)).1) ((octX (octX (octX ((sg, ln, lo)) (xv.toBitVec.toNat / 2 ^ 24 % 256)) (xv.toBitVec.toNat / 2 ^ 16 % 256)) (xv.toBitVec.toNat / 2 ^ 8 % 256)).2.1) ((octX (octX (octX ((sg, ln, lo)) (xv.toBitVec.toNat / 2 ^ 24 % 256)) (xv.toBitVec.toNat / 2 ^ 16 % 256)) (xv.toBitVec.toNat / 2 ^ 8 % 256)).2.2) (xv.toBitVec.toNat / 2 ^ 0 % 256) (octX_ok (octX_ok (octX_ok hX0 (by omega)) (by omega)) (by omega)) (by omega)) cw_F_135 [1, 2] [0] [0, 1, 2] (qr := 0) rfl rfl rfl (of_decide_eq_true rfl) rfl (of_decide_eq_true rfl) rfl (of_decide_eq_true rfl) (fun _ => rfl) (fun _ => of_decide_eq_true rfl) rfl ⟨rfl, rfl⟩ ⟨by decide, by decide⟩ ⟨by decide, by decide⟩ rfl rfl (of_decide_eq_true rfl) d_F_sign_25 rfl (fun _ _ => ?_)
                    refine V.lsub C [0, 1, 2] (lv' := [(0, .ref (o 0)), (1, .int (xv)), (2, .int (nI 0))]) rfl ?_
                    refine V.wo C (ws' := (FtW o ta dr sp (x 0) pr se ex) ++ (TxtW x cC ((octX (octX (octX (octX ((sg, ln, lo)) (xv.toBitVec.toNat / 2 ^ 24 % 256)) (xv.toBitVec.toNat / 2 ^ 16 % 256)) (xv.toBitVec.toNat / 2 ^ 8 % 256)) (xv.toBitVec.toNat / 2 ^ 0 % 256)).1) ((octX (octX (octX (octX ((sg, ln, lo)) (xv.toBitVec.toNat / 2 ^ 24 % 256)) (xv.toBitVec.toNat / 2 ^ 16 % 256)) (xv.toBitVec.toNat / 2 ^ 8 % 256)) (xv.toBitVec.toNat / 2 ^ 0 % 256)).2.1) ((octX (octX (octX (octX ((sg, ln, lo)) (xv.toBitVec.toNat / 2 ^ 24 % 256)) (xv.toBitVec.toNat / 2 ^ 16 % 256)) (xv.toBitVec.toNat / 2 ^ 8 % 256)) (xv.toBitVec.toNat / 2 ^ 0 % 256)).2.2))) (by first | (rw [octX_0 (t := octX (octX (octX ((sg, ln, lo)) (xv.toBitVec.toNat / 2 ^ 24 % 256)) (xv.toBitVec.toNat / 2 ^ 16 % 256)) (xv.toBitVec.toNat / 2 ^ 8 % 256)) (o := xv.toBitVec.toNat / 2 ^ 0 % 256) (by omega)]; try rfl) | (rw [octX_1 (t := octX (octX (octX ((sg, ln, lo)) (xv.toBitVec.toNat / 2 ^ 24 % 256)) (xv.toBitVec.toNat / 2 ^ 16 % 256)) (xv.toBitVec.toNat / 2 ^ 8 % 256)) (o := xv.toBitVec.toNat / 2 ^ 0 % 256) (by omega)]; try rfl)) ?_
                    exact hk_4
            · refine V.iload_n C (n := 16) (j := 3) d_F_sign_15 rfl rfl rfl ?_
              refine V.ifn_eq C (tgt := 28) (n := 19) (by omega) d_F_sign_16 (by decide) rfl (fun c16_7 => ?_) (fun c16_7 => ?_)
              · refine V.lsub C [0, 1, 2] (lv' := [(0, .ref (o 0)), (1, .int (xv)), (2, .int (nI 8))]) rfl ?_
                refine V.wo C (ws' := (FtW o ta dr sp (x 0) pr se ex) ++ (TxtW x cC ((octX (octX (octX ((sg, ln, lo)) (xv.toBitVec.toNat / 2 ^ 24 % 256)) (xv.toBitVec.toNat / 2 ^ 16 % 256)) (xv.toBitVec.toNat / 2 ^ 8 % 256)).1) ((octX (octX (octX ((sg, ln, lo)) (xv.toBitVec.toNat / 2 ^ 24 % 256)) (xv.toBitVec.toNat / 2 ^ 16 % 256)) (xv.toBitVec.toNat / 2 ^ 8 % 256)).2.1) ((octX (octX (octX ((sg, ln, lo)) (xv.toBitVec.toNat / 2 ^ 24 % 256)) (xv.toBitVec.toNat / 2 ^ 16 % 256)) (xv.toBitVec.toNat / 2 ^ 8 % 256)).2.2))) (by first | (rw [octX_0 (t := octX (octX ((sg, ln, lo)) (xv.toBitVec.toNat / 2 ^ 24 % 256)) (xv.toBitVec.toNat / 2 ^ 16 % 256)) (o := xv.toBitVec.toNat / 2 ^ 8 % 256) (by omega)]; try rfl) | (rw [octX_1 (t := octX (octX ((sg, ln, lo)) (xv.toBitVec.toNat / 2 ^ 24 % 256)) (xv.toBitVec.toNat / 2 ^ 16 % 256)) (o := xv.toBitVec.toNat / 2 ^ 8 % 256) (by omega)]; try rfl)) ?_
                exact hk_3
              · refine V.aload_n C (n := 20) (j := 0) d_F_sign_19 rfl rfl rfl ?_
                refine V.get C (n := 23) (q0 := 0) (k0 := 3) clOk_0 rfl (by decide) rfl fl_F_29 rfl d_F_sign_20 rfl ?_
                refine V.iload_n C (n := 24) (j := 3) d_F_sign_23 rfl rfl rfl ?_
                refine V.i2c_n C (n := 25) (by omega) d_F_sign_24 rfl ?_
                refine V.callV_v C (n := 28) (ws2 := fun _ => (FtW o ta dr sp (x 0) pr se ex) ++ (TxtW x cC ((addX (((octX (octX ((sg, ln, lo)) (xv.toBitVec.toNat / 2 ^ 24 % 256)) (xv.toBitVec.toNat / 2 ^ 16 % 256)).1), ((octX (octX ((sg, ln, lo)) (xv.toBitVec.toNat / 2 ^ 24 % 256)) (xv.toBitVec.toNat / 2 ^ 16 % 256)).2.1), ((octX (octX ((sg, ln, lo)) (xv.toBitVec.toNat / 2 ^ 24 % 256)) (xv.toBitVec.toNat / 2 ^ 16 % 256)).2.2)) (xv.toBitVec.toNat / 2 ^ 8 % 256)).1) ((addX (((octX (octX ((sg, ln, lo)) (xv.toBitVec.toNat / 2 ^ 24 % 256)) (xv.toBitVec.toNat / 2 ^ 16 % 256)).1), ((octX (octX ((sg, ln, lo)) (xv.toBitVec.toNat / 2 ^ 24 % 256)) (xv.toBitVec.toNat / 2 ^ 16 % 256)).2.1), ((octX (octX ((sg, ln, lo)) (xv.toBitVec.toNat / 2 ^ 24 % 256)) (xv.toBitVec.toNat / 2 ^ 16 % 256)).2.2)) (xv.toBitVec.toNat / 2 ^ 8 % 256)).2.1) ((addX (((octX (octX ((sg, ln, lo)) (xv.toBitVec.toNat / 2 ^ 24 % 256)) (xv.toBitVec.toNat / 2 ^ 16 % 256)).1), ((octX (octX ((sg, ln, lo)) (xv.toBitVec.toNat / 2 ^ 24 % 256)) (xv.toBitVec.toNat / 2 ^ 16 % 256)).2.1), ((octX (octX ((sg, ln, lo)) (xv.toBitVec.toNat / 2 ^ 24 % 256)) (xv.toBitVec.toNat / 2 ^ 16 % 256)).2.2)) (xv.toBitVec.toNat / 2 ^ 8 % 256)).2.2))) (c_X_add l D cI cC E (x) ((octX (octX ((sg, ln, lo)) (xv.toBitVec.toNat / 2 ^ 24 % 256)) (xv.toBitVec.toNat / 2 ^ 16 % 256)).1) ((octX (octX ((sg, ln, lo)) (xv.toBitVec.toNat / 2 ^ 24 % 256)) (xv.toBitVec.toNat / 2 ^ 16 % 256)).2.1) ((octX (octX ((sg, ln, lo)) (xv.toBitVec.toNat / 2 ^ 24 % 256)) (xv.toBitVec.toNat / 2 ^ 16 % 256)).2.2) (xv.toBitVec.toNat / 2 ^ 8 % 256) (octX_ok (octX_ok hX0 (by omega)) (by omega)) (by omega)) cw_F_135 [1, 2] [0] [0, 1, 2] (qr := 0) rfl rfl rfl (of_decide_eq_true rfl) rfl (of_decide_eq_true rfl) rfl (of_decide_eq_true rfl) (fun _ => rfl) (fun _ => of_decide_eq_true rfl) rfl ⟨rfl, rfl⟩ ⟨by decide, by decide⟩ ⟨by decide, by decide⟩ rfl rfl (of_decide_eq_true rfl) d_F_sign_25 rfl (fun _ _ => ?_)
                refine V.lsub C [0, 1, 2] (lv' := [(0, .ref (o 0)), (1, .int (xv)), (2, .int (nI 8))]) rfl ?_
                refine V.wo C (ws' := (FtW o ta dr sp (x 0) pr se ex) ++ (TxtW x cC ((octX (octX (octX ((sg, ln, lo)) (xv.toBitVec.toNat / 2 ^ 24 % 256)) (xv.toBitVec.toNat / 2 ^ 16 % 256)) (xv.toBitVec.toNat / 2 ^ 8 % 256)).1) ((octX (octX (octX ((sg, ln, lo)) (xv.toBitVec.toNat / 2 ^ 24 % 256)) (xv.toBitVec.toNat / 2 ^ 16 % 256)) (xv.toBitVec.toNat / 2 ^ 8 % 256)).2.1) ((octX (octX (octX ((sg, ln, lo)) (xv.toBitVec.toNat / 2 ^ 24 % 256)) (xv.toBitVec.toNat / 2 ^ 16 % 256)) (xv.toBitVec.toNat / 2 ^ 8 % 256)).2.2))) (by first | (rw [octX_0 (t := octX (octX ((sg, ln, lo)) (xv.toBitVec.toNat / 2 ^ 24 % 256)) (xv.toBitVec.toNat / 2 ^ 16 % 256)) (o := xv.toBitVec.toNat / 2 ^ 8 % 256) (by omega)]; try rfl) | (rw [octX_1 (t := octX (octX ((sg, ln, lo)) (xv.toBitVec.toNat / 2 ^ 24 % 256)) (xv.toBitVec.toNat / 2 ^ 16 % 256)) (o := xv.toBitVec.toNat / 2 ^ 8 % 256) (by omega)]; try rfl)) ?_
                exact hk_3
        · refine V.iload_n C (n := 16) (j := 3) d_F_sign_15 rfl rfl rfl ?_
          refine V.ifn_eq C (tgt := 28) (n := 19) (by omega) d_F_sign_16 (by decide) rfl (fun c16_8 => ?_) (fun c16_8 => ?_)
          · refine V.lsub C [0, 1, 2] (lv' := [(0, .ref (o 0)), (1, .int (xv)), (2, .int (nI 16))]) rfl ?_
            refine V.wo C (ws' := (FtW o ta dr sp (x 0) pr se ex) ++ (TxtW x cC ((octX (octX ((sg, ln, lo)) (xv.toBitVec.toNat / 2 ^ 24 % 256)) (xv.toBitVec.toNat / 2 ^ 16 % 256)).1) ((octX (octX ((sg, ln, lo)) (xv.toBitVec.toNat / 2 ^ 24 % 256)) (xv.toBitVec.toNat / 2 ^ 16 % 256)).2.1) ((octX (octX ((sg, ln, lo)) (xv.toBitVec.toNat / 2 ^ 24 % 256)) (xv.toBitVec.toNat / 2 ^ 16 % 256)).2.2))) (by first | (rw [octX_0 (t := octX ((sg, ln, lo)) (xv.toBitVec.toNat / 2 ^ 24 % 256)) (o := xv.toBitVec.toNat / 2 ^ 16 % 256) (by omega)]; try rfl) | (rw [octX_1 (t := octX ((sg, ln, lo)) (xv.toBitVec.toNat / 2 ^ 24 % 256)) (o := xv.toBitVec.toNat / 2 ^ 16 % 256) (by omega)]; try rfl)) ?_
            exact hk_2
          · refine V.aload_n C (n := 20) (j := 0) d_F_sign_19 rfl rfl rfl ?_
            refine V.get C (n := 23) (q0 := 0) (k0 := 3) clOk_0 rfl (by decide) rfl fl_F_29 rfl d_F_sign_20 rfl ?_
            refine V.iload_n C (n := 24) (j := 3) d_F_sign_23 rfl rfl rfl ?_
            refine V.i2c_n C (n := 25) (by omega) d_F_sign_24 rfl ?_
            refine V.callV_v C (n := 28) (ws2 := fun _ => (FtW o ta dr sp (x 0) pr se ex) ++ (TxtW x cC ((addX (((octX ((sg, ln, lo)) (xv.toBitVec.toNat / 2 ^ 24 % 256)).1), ((octX ((sg, ln, lo)) (xv.toBitVec.toNat / 2 ^ 24 % 256)).2.1), ((octX ((sg, ln, lo)) (xv.toBitVec.toNat / 2 ^ 24 % 256)).2.2)) (xv.toBitVec.toNat / 2 ^ 16 % 256)).1) ((addX (((octX ((sg, ln, lo)) (xv.toBitVec.toNat / 2 ^ 24 % 256)).1), ((octX ((sg, ln, lo)) (xv.toBitVec.toNat / 2 ^ 24 % 256)).2.1), ((octX ((sg, ln, lo)) (xv.toBitVec.toNat / 2 ^ 24 % 256)).2.2)) (xv.toBitVec.toNat / 2 ^ 16 % 256)).2.1) ((addX (((octX ((sg, ln, lo)) (xv.toBitVec.toNat / 2 ^ 24 % 256)).1), ((octX ((sg, ln, lo)) (xv.toBitVec.toNat / 2 ^ 24 % 256)).2.1), ((octX ((sg, ln, lo)) (xv.toBitVec.toNat / 2 ^ 24 % 256)).2.2)) (xv.toBitVec.toNat / 2 ^ 16 % 256)).2.2))) (c_X_add l D cI cC E (x) ((octX ((sg, ln, lo)) (xv.toBitVec.toNat / 2 ^ 24 % 256)).1) ((octX ((sg, ln, lo)) (xv.toBitVec.toNat / 2 ^ 24 % 256)).2.1) ((octX ((sg, ln, lo)) (xv.toBitVec.toNat / 2 ^ 24 % 256)).2.2) (xv.toBitVec.toNat / 2 ^ 16 % 256) (octX_ok hX0 (by omega)) (by omega)) cw_F_135 [1, 2] [0] [0, 1, 2] (qr := 0) rfl rfl rfl (of_decide_eq_true rfl) rfl (of_decide_eq_true rfl) rfl (of_decide_eq_true rfl) (fun _ => rfl) (fun _ => of_decide_eq_true rfl) rfl ⟨rfl, rfl⟩ ⟨by decide, by decide⟩ ⟨by decide, by decide⟩ rfl rfl (of_decide_eq_true rfl) d_F_sign_25 rfl (fun _ _ => ?_)
            refine V.lsub C [0, 1, 2] (lv' := [(0, .ref (o 0)), (1, .int (xv)), (2, .int (nI 16))]) rfl ?_
            refine V.wo C (ws' := (FtW o ta dr sp (x 0) pr se ex) ++ (TxtW x cC ((octX (octX ((sg, ln, lo)) (xv.toBitVec.toNat / 2 ^ 24 % 256)) (xv.toBitVec.toNat / 2 ^ 16 % 256)).1) ((octX (octX ((sg, ln, lo)) (xv.toBitVec.toNat / 2 ^ 24 % 256)) (xv.toBitVec.toNat / 2 ^ 16 % 256)).2.1) ((octX (octX ((sg, ln, lo)) (xv.toBitVec.toNat / 2 ^ 24 % 256)) (xv.toBitVec.toNat / 2 ^ 16 % 256)).2.2))) (by first | (rw [octX_0 (t := octX ((sg, ln, lo)) (xv.toBitVec.toNat / 2 ^ 24 % 256)) (o := xv.toBitVec.toNat / 2 ^ 16 % 256) (by omega)]; try rfl) | (rw [octX_1 (t := octX ((sg, ln, lo)) (xv.toBitVec.toNat / 2 ^ 24 % 256)) (o := xv.toBitVec.toNat / 2 ^ 16 % 256) (by omega)]; try rfl)) ?_
            exact hk_2
    · refine V.iload_n C (n := 16) (j := 3) d_F_sign_15 rfl rfl rfl ?_
      refine V.ifn_eq C (tgt := 28) (n := 19) (by omega) d_F_sign_16 (by decide) rfl (fun c16_9 => ?_) (fun c16_9 => ?_)
      · refine V.lsub C [0, 1, 2] (lv' := [(0, .ref (o 0)), (1, .int (xv)), (2, .int (nI 24))]) rfl ?_
        refine V.wo C (ws' := (FtW o ta dr sp (x 0) pr se ex) ++ (TxtW x cC ((octX ((sg, ln, lo)) (xv.toBitVec.toNat / 2 ^ 24 % 256)).1) ((octX ((sg, ln, lo)) (xv.toBitVec.toNat / 2 ^ 24 % 256)).2.1) ((octX ((sg, ln, lo)) (xv.toBitVec.toNat / 2 ^ 24 % 256)).2.2))) (by first | (rw [octX_0 (t := (sg, ln, lo)) (o := xv.toBitVec.toNat / 2 ^ 24 % 256) (by omega)]; try rfl) | (rw [octX_1 (t := (sg, ln, lo)) (o := xv.toBitVec.toNat / 2 ^ 24 % 256) (by omega)]; try rfl)) ?_
        exact hk_1
      · refine V.aload_n C (n := 20) (j := 0) d_F_sign_19 rfl rfl rfl ?_
        refine V.get C (n := 23) (q0 := 0) (k0 := 3) clOk_0 rfl (by decide) rfl fl_F_29 rfl d_F_sign_20 rfl ?_
        refine V.iload_n C (n := 24) (j := 3) d_F_sign_23 rfl rfl rfl ?_
        refine V.i2c_n C (n := 25) (by omega) d_F_sign_24 rfl ?_
        refine V.callV_v C (n := 28) (ws2 := fun _ => (FtW o ta dr sp (x 0) pr se ex) ++ (TxtW x cC ((addX (sg, ln, lo) (xv.toBitVec.toNat / 2 ^ 24 % 256)).1) ((addX (sg, ln, lo) (xv.toBitVec.toNat / 2 ^ 24 % 256)).2.1) ((addX (sg, ln, lo) (xv.toBitVec.toNat / 2 ^ 24 % 256)).2.2))) (c_X_add l D cI cC E (x) (sg) (ln) (lo) (xv.toBitVec.toNat / 2 ^ 24 % 256) hX0 (by omega)) cw_F_135 [1, 2] [0] [0, 1, 2] (qr := 0) rfl rfl rfl (of_decide_eq_true rfl) rfl (of_decide_eq_true rfl) rfl (of_decide_eq_true rfl) (fun _ => rfl) (fun _ => of_decide_eq_true rfl) rfl ⟨rfl, rfl⟩ ⟨by decide, by decide⟩ ⟨by decide, by decide⟩ rfl rfl (of_decide_eq_true rfl) d_F_sign_25 rfl (fun _ _ => ?_)
        refine V.lsub C [0, 1, 2] (lv' := [(0, .ref (o 0)), (1, .int (xv)), (2, .int (nI 24))]) rfl ?_
        refine V.wo C (ws' := (FtW o ta dr sp (x 0) pr se ex) ++ (TxtW x cC ((octX ((sg, ln, lo)) (xv.toBitVec.toNat / 2 ^ 24 % 256)).1) ((octX ((sg, ln, lo)) (xv.toBitVec.toNat / 2 ^ 24 % 256)).2.1) ((octX ((sg, ln, lo)) (xv.toBitVec.toNat / 2 ^ 24 % 256)).2.2))) (by first | (rw [octX_0 (t := (sg, ln, lo)) (o := xv.toBitVec.toNat / 2 ^ 24 % 256) (by omega)]; try rfl) | (rw [octX_1 (t := (sg, ln, lo)) (o := xv.toBitVec.toNat / 2 ^ 24 % 256) (by omega)]; try rfl)) ?_
        exact hk_1
set_option maxHeartbeats 4000000 in
set_option maxRecDepth 100000 in
theorem c_X_addNumber (l : Launch) (D : va_G) (cI cC : ClassId) (E : Nat → Nat) (x : Nat → Nat) (sg : Nat → Nat) (ln : Nat) (lo : Bool) (y : Nat) (hX0 : TxtOK sg ln) (hy : y ≤ 10000) : CV l D (TY cI cC E) m_X_addNumber (rmD 1) [.ref (x 0), .int (nI y)] (TxtW x cC sg ln lo) (TxtW x cC ((numX (sg, ln, lo) y).1) ((numX (sg, ln, lo) y).2.1) ((numX (sg, ln, lo) y).2.2)) := by
  refine CN.of (by decide +kernel) (of_decide_eq_true rfl) ?_
  intro p e s m args below meth c C hr hin
  refine V.aload_n C (n := 1) (j := 0) d_X_addNumber_0 rfl rfl rfl ?_
  refine V.bipush C (v := nI 32) (n := 3) d_X_addNumber_1 (by decide) rfl ?_
  refine V.callV_v C (n := 6) (ws2 := fun _ => (TxtW x cC ((addX (sg, ln, lo) 32).1) ((addX (sg, ln, lo) 32).2.1) ((addX (sg, ln, lo) 32).2.2))) (c_X_add l D cI cC E (x) (sg) (ln) (lo) (32) hX0 (by first | assumption | omega)) cw_X_32 [0, 1] [] [0, 1] (qr := 0) rfl rfl rfl (of_decide_eq_true rfl) rfl (of_decide_eq_true rfl) rfl (of_decide_eq_true rfl) (fun _ => rfl) (fun _ => of_decide_eq_true rfl) rfl ⟨rfl, rfl⟩ ⟨by decide, by decide⟩ ⟨by decide, by decide⟩ rfl rfl (of_decide_eq_true rfl) d_X_addNumber_3 rfl (fun _ _ => ?_)
  refine V.iconst C (v := nI 1) (n := 7) d_X_addNumber_6 (by decide) rfl ?_
  refine V.istore_n C (n := 8) (lv' := [(0, .ref (x 0)), (1, .int (nI y)), (2, .int (nI 1))]) [1, 2, 0] d_X_addNumber_7 rfl (by decide) rfl rfl ?_
  refine V.ind1 C (fun (u : Nat) => (TxtW x cC ((addX (sg, ln, lo) 32).1) ((addX (sg, ln, lo) 32).2.1) ((addX (sg, ln, lo) 32).2.2))) (fun (u : Nat) => [(0, .ref (x 0)), (1, .int (nI y)), (2, .int (nI u))]) (fun (u : Nat) => (∃ k, k ≤ 4 ∧ u = 10 ^ k ∧ (k = 0 ∨ u ≤ y))) (fun (u : Nat) => 100000 - u) (1) ⟨0, by omega, rfl, Or.inl rfl⟩ rfl rfl ?_
  rintro u hu ih8
  try dsimp only
  obtain ⟨k, hk, hu1, hu2⟩ := hu
  have hub := pow_le4 hk hu1
  refine V.iload_n C (n := 9) (j := 2) d_X_addNumber_8 rfl rfl rfl ?_
  refine V.iload_n C (n := 10) (j := 1) d_X_addNumber_9 rfl rfl rfl ?_
  refine V.bipush C (v := nI 10) (n := 12) d_X_addNumber_10 (by decide) rfl ?_
  refine V.idiv_n C (n := 13) d_X_addNumber_12 (by omega) (by omega) (by omega) rfl ?_
  refine V.icmpn_gt C (tgt := 24) (n := 16) (by omega) (by omega) d_X_addNumber_13 (by decide) rfl (fun c13_1 => ?_) (fun c13_1 => ?_)
  · refine V.iload_n C (n := 25) (j := 2) d_X_addNumber_24 rfl rfl rfl ?_
    refine V.istore_n C (n := 26) (lv' := [(0, .ref (x 0)), (1, .int (nI y)), (2, .int (nI u)), (3, .int (nI u))]) [1, 2, 3, 0] d_X_addNumber_25 rfl (by decide) rfl rfl ?_
    refine V.ind2 C (fun (rs : Nat) (T : TxS) => (TxtW x cC T.1 T.2.1 T.2.2)) (fun (rs : Nat) (T : TxS) => [(0, .ref (x 0)), (1, .int (nI y)), (2, .int (nI u)), (3, .int (nI rs))]) (fun (rs : Nat) (T : TxS) => (numI y rs T (numX (sg, ln, lo) y)) ∧ (TxtOK T.1 T.2.1)) (fun (rs : Nat) (T : TxS) => rs) (u) (addX (sg, ln, lo) 32) ⟨Or.inr ⟨k, hk, hu1, by rw [ndg_of hy hk hu1 hu2 (by omega)]; rfl⟩, addX_ok (t := (sg, ln, lo)) hX0 (by omega)⟩ rfl rfl ?_
    rintro rs T ⟨hI, hTX⟩ ih26
    try dsimp only
    have hrb := numI_b hI
    have hdv := Nat.div_le_self y rs
    refine V.iload_n C (n := 27) (j := 3) d_X_addNumber_26 rfl rfl rfl ?_
    refine V.ifn_le C (tgt := 52) (n := 30) (by omega) d_X_addNumber_27 (by decide) rfl (fun c27_2 => ?_) (fun c27_2 => ?_)
    · exact V.vret C hr d_X_addNumber_52 () (trivial) (by rw [numI_e hI (by omega)])
    · refine V.aload_n C (n := 31) (j := 0) d_X_addNumber_30 rfl rfl rfl ?_
      refine V.bipush C (v := nI 48) (n := 33) d_X_addNumber_31 (by decide) rfl ?_
      refine V.iload_n C (n := 34) (j := 1) d_X_addNumber_33 rfl rfl rfl ?_
      refine V.iload_n C (n := 35) (j := 3) d_X_addNumber_34 rfl rfl rfl ?_
      refine V.idiv_n C (n := 36) d_X_addNumber_35 (by omega) (by omega) (by omega) rfl ?_
      refine V.bipush C (v := nI 10) (n := 38) d_X_addNumber_36 (by decide) rfl ?_
      refine V.irem_n C (n := 39) d_X_addNumber_38 (by omega) (by omega) (by omega) rfl ?_
      refine V.iadd_n C (n := 40) d_X_addNumber_39 rfl ?_
      refine V.i2c_n C (n := 41) (by omega) d_X_addNumber_40 rfl ?_
      refine V.callV_v C (n := 44) (ws2 := fun _ => (TxtW x cC ((addX (T.1, T.2.1, T.2.2) (48 + ((y / rs) % 10))).1) ((addX (T.1, T.2.1, T.2.2) (48 + ((y / rs) % 10))).2.1) ((addX (T.1, T.2.1, T.2.2) (48 + ((y / rs) % 10))).2.2))) (c_X_add l D cI cC E (x) (T.1) (T.2.1) (T.2.2) (48 + ((y / rs) % 10)) hTX (by omega)) cw_X_32 [0, 1] [] [0, 1] (qr := 0) rfl rfl rfl (of_decide_eq_true rfl) rfl (of_decide_eq_true rfl) rfl (of_decide_eq_true rfl) (fun _ => rfl) (fun _ => of_decide_eq_true rfl) rfl ⟨rfl, rfl⟩ ⟨by decide, by decide⟩ ⟨by decide, by decide⟩ rfl rfl (of_decide_eq_true rfl) d_X_addNumber_41 rfl (fun _ _ => ?_)
      refine V.iload_n C (n := 45) (j := 3) d_X_addNumber_44 rfl rfl rfl ?_
      refine V.bipush C (v := nI 10) (n := 47) d_X_addNumber_45 (by decide) rfl ?_
      refine V.idiv_n C (n := 48) d_X_addNumber_47 (by omega) (by omega) (by omega) rfl ?_
      refine V.istore_n C (n := 49) (lv' := [(0, .ref (x 0)), (1, .int (nI y)), (2, .int (nI u)), (3, .int (nI (rs / 10)))]) [1, 2, 3, 0] d_X_addNumber_48 rfl (by decide) rfl rfl ?_
      refine V.goto C (n := 26) d_X_addNumber_49 (by decide) ?_
      exact ih26 (rs / 10) (addX T (48 + y / rs % 10)) ⟨numI_n hI (by omega), addX_ok hTX (by omega)⟩ (by omega)
  · refine V.iload_n C (n := 17) (j := 2) d_X_addNumber_16 rfl rfl rfl ?_
    refine V.bipush C (v := nI 10) (n := 19) d_X_addNumber_17 (by decide) rfl ?_
    refine V.imul_n C (n := 20) d_X_addNumber_19 rfl ?_
    refine V.istore_n C (n := 21) (lv' := [(0, .ref (x 0)), (1, .int (nI y)), (2, .int (nI (u * 10)))]) [1, 2, 0] d_X_addNumber_20 rfl (by decide) rfl rfl ?_
    refine V.goto C (n := 8) d_X_addNumber_21 (by decide) ?_
    exact ih8 (u * 10) ⟨k + 1, by have := NUMK hk hu1 (show u ≤ y / 10 by omega) hy; omega, by rw [hu1, Nat.pow_succ], Or.inr (by omega)⟩ (by omega)
end
section
/-- from i on, as long as p holds, up to le -/
def skp (p : Nat → Bool) (le : Nat) : Nat → Nat → Nat
  | 0, i => i
  | f + 1, i => if p i = true then skp p le f (i + 1) else i
def skq (p : Nat → Bool) (le i : Nat) : Nat := skp p le (le - i) i
theorem skq_t {p : Nat → Bool} {le i : Nat} (h : i < le) (hp : p i = true) : skq p le i = skq p le (i + 1) := by
  unfold skq
  rw [show le - i = (le - (i + 1)) + 1 by omega, skp, if_pos hp]
theorem skq_e {p : Nat → Bool} {le i : Nat} (h : le ≤ i) : skq p le i = i := by
  unfold skq
  rw [show le - i = 0 by omega, skp]
theorem skq_f {p : Nat → Bool} {le i : Nat} (hp : ¬ p i = true) : skq p le i = i := by
  unfold skq
  cases le - i with
  | zero => rfl
  | succ f => rw [skp, if_neg hp]
theorem skp_rng {p : Nat → Bool} {le : Nat} (f : Nat) : ∀ i, i ≤ skp p le f i ∧ skp p le f i ≤ i + f := by
  induction f with
  | zero => intro i; exact ⟨Nat.le_refl _, Nat.le_refl _⟩
  | succ f ih =>
    intro i
    have := ih (i + 1)
    rw [skp]
    split <;> omega
theorem skq_rng (p : Nat → Bool) (le i : Nat) : i ≤ skq p le i ∧ (skq p le i ≤ le ∨ skq p le i = i) := by
  have h := skp_rng (p := p) (le := le) (le - i) i
  unfold skq
  omega
def isSp (sg : Nat → Nat) : Nat → Bool := fun i => decide (sg i = 32)
def noSp (sg : Nat → Nat) : Nat → Bool := fun i => decide (sg i ≠ 32)
/-- the next word behind we: its start, its end -/
def wS (sg : Nat → Nat) (le we : Nat) : Nat := skq (isSp sg) le we
def wE (sg : Nat → Nat) (le we : Nat) : Nat := skq (noSp sg) le (wS sg le we)
theorem wS_rng (sg : Nat → Nat) (le we : Nat) : we ≤ wS sg le we ∧ (wS sg le we ≤ le ∨ wS sg le we = we) := skq_rng _ _ _
theorem wE_rng (sg : Nat → Nat) (le we : Nat) : wS sg le we ≤ wE sg le we ∧ (wE sg le we ≤ le ∨ wE sg le we = wS sg le we) := skq_rng _ _ _
/-- digits: the value of the first j signs from a on, -1 if one is no digit -/
def dgs (sg : Nat → Nat) (a : Nat) : Nat → Int
  | 0 => 0
  | j + 1 => if dgs sg a j < 0 then -1 else if 48 ≤ sg (a + j) ∧ sg (a + j) ≤ 57 then dgs sg a j * 10 + ((sg (a + j) : Int) - 48) else -1
theorem dgs_neg {sg : Nat → Nat} {a j : Nat} (h : dgs sg a j = -1) (d : Nat) : dgs sg a (j + d) = -1 := by
  induction d with
  | zero => exact h
  | succ d ih => rw [← Nat.add_assoc, dgs, if_pos (by rw [ih]; decide)]
theorem dgs_bad {sg : Nat → Nat} {a j m : Nat} (hm : j < m) (h : ¬ (48 ≤ sg (a + j) ∧ sg (a + j) ≤ 57)) : dgs sg a m = -1 := by
  have e : dgs sg a (j + 1) = -1 := by
    rw [dgs]
    split
    · rfl
    · first | rfl | rw [if_neg h]
  have := dgs_neg e (m - (j + 1))
  rw [show j + 1 + (m - (j + 1)) = m by omega] at this
  exact this
theorem dgs_ok {sg : Nat → Nat} {a j v : Nat} (h : dgs sg a j = (v : Int)) (h2 : 48 ≤ sg (a + j) ∧ sg (a + j) ≤ 57) : dgs sg a (j + 1) = ((v * 10 + (sg (a + j) - 48) : Nat) : Int) := by
  rw [dgs, if_neg (by omega), if_pos h2, h]
  omega
/-- the next number behind we: -1 if there is none -/
def nmV (sg : Nat → Nat) (le we : Nat) : Int := if wS sg le we < wE sg le we ∧ wE sg le we - wS sg le we ≤ 6 then dgs sg (wS sg le we) (wE sg le we - wS sg le we) else -1
theorem dgs_rng {sg : Nat → Nat} {a : Nat} (j : Nat) : -1 ≤ dgs sg a j ∧ dgs sg a j < ((10 ^ j : Nat) : Int) := by
  induction j with
  | zero => rw [dgs]; exact ⟨by decide, by decide⟩
  | succ j ih =>
    have hp : (1 : Nat) ≤ 10 ^ (j + 1) := Nat.pow_pos (by decide)
    have hq : 10 ^ (j + 1) = 10 ^ j * 10 := Nat.pow_succ ..
    rw [dgs]
    split
    · exact ⟨by decide, by omega⟩
    · split
      · rw [hq]; omega
      · exact ⟨by decide, by omega⟩
theorem nmV_rng (sg : Nat → Nat) (le we : Nat) : -1 ≤ nmV sg le we ∧ nmV sg le we < 1000000 := by
  unfold nmV
  split
  · rename_i h
    have h1 := dgs_rng (sg := sg) (a := wS sg le we) (wE sg le we - wS sg le we)
    have h2 : 10 ^ (wE sg le we - wS sg le we) ≤ 10 ^ 6 := Nat.pow_le_pow_right (by decide) h.2
    have h3 : (10 : Nat) ^ 6 = 1000000 := by decide
    omega
  · exact ⟨by decide, by decide⟩
theorem wE_b {sg : Nat → Nat} {le we : Nat} (hl : le ≤ 2000) (h : we ≤ 2000) : wE sg le we ≤ 2000 := by
  have h1 := wS_rng sg le we
  have h2 := wE_rng sg le we
  omega
def wrdX (t : TxS) (i : Nat) : Nat → TxS
  | 0 => t
  | j + 1 => addX (wrdX t i j) (sch i j)
theorem wrdX_ok {t : TxS} {i : Nat} (h : TxtOK t.1 t.2.1) (j : Nat) : TxtOK (wrdX t i j).1 (wrdX t i j).2.1 := by
  induction j with
  | zero => exact h
  | succ j ih => exact addX_ok ih (sch_le i j)
def wEq (sg : Nat → Nat) (ws i : Nat) : Nat → Bool
  | 0 => true
  | j + 1 => wEq sg ws i j && decide (sg (ws + j) = sch i j)
def wIs (sg : Nat → Nat) (ws we i : Nat) : Bool := decide (we - ws = sln i) && wEq sg ws i (sln i)
theorem wEq_t {sg : Nat → Nat} {ws i j : Nat} (h : wEq sg ws i j = true) (h2 : sg (ws + j) = sch i j) : wEq sg ws i (j + 1) = true := by rw [wEq, h, decide_eq_true h2]; rfl
theorem wEq_bad {sg : Nat → Nat} {ws i j : Nat} (h : sg (ws + j) ≠ sch i j) (d : Nat) : wEq sg ws i (j + 1 + d) = false := by
  induction d with
  | zero => rw [Nat.add_zero, wEq, decide_eq_false h, Bool.and_false]
  | succ d ih => rw [← Nat.add_assoc, wEq, ih, Bool.false_and]
theorem wIs_len {sg : Nat → Nat} {ws we i : Nat} (h : we - ws ≠ sln i) : ¬ wIs sg ws we i = true := by
  unfold wIs
  rw [decide_eq_false h, Bool.false_and]
  decide
theorem wIs_bad {sg : Nat → Nat} {ws we i j : Nat} (hj : j < sln i) (h : sg (ws + j) ≠ sch i j) : ¬ wIs sg ws we i = true := by
  have e := wEq_bad h (sln i - (j + 1))
  rw [show j + 1 + (sln i - (j + 1)) = sln i by omega] at e
  unfold wIs
  rw [e, Bool.and_false]
  decide
theorem wIs_ok {sg : Nat → Nat} {ws we i : Nat} (h : we - ws = sln i) (h2 : wEq sg ws i (sln i) = true) : wIs sg ws we i = true := by
  unfold wIs
  rw [decide_eq_true h, h2]
  rfl
abbrev TbS : Type := (Nat → Nat) × (Nat → Nat) × (Nat → Nat) × (Nat → Nat) × (Nat → Nat) × (Nat → Nat) × Nat
def apS (t : TbS) (s9 p9 r9 g9 : Nat) : TbS := (updN t.1 (t.2.2.2.2.2.2 + 1) s9, updN t.2.1 (t.2.2.2.2.2.2 + 1) p9, updN t.2.2.1 (t.2.2.2.2.2.2 + 1) r9, updN t.2.2.2.1 (t.2.2.2.2.2.2 + 1) g9, updN t.2.2.2.2.1 (t.2.2.2.2.2.2 + 1) 0, clrT t.2.2.2.2.2.1 (t.2.2.2.2.2.2 + 1) 20, t.2.2.2.2.2.2 + 1)
/-- a frame's four numbers behind we, and room for it -/
def okF (sg : Nat → Nat) (le we n : Nat) : Prop := 1 ≤ nmV sg le we ∧ nmV sg le we ≤ 20 ∧ 1 ≤ nmV sg le (wE sg le we) ∧ nmV sg le (wE sg le we) ≤ 60 ∧ 0 ≤ nmV sg le (wE sg le (wE sg le we)) ∧ nmV sg le (wE sg le (wE sg le we)) ≤ 99 ∧ 0 ≤ nmV sg le (wE sg le (wE sg le (wE sg le we))) ∧ nmV sg le (wE sg le (wE sg le (wE sg le we))) ≤ nmV sg le (wE sg le we) ∧ n < 40
/-- readers of the frame n, whose sender is s0, from we on -/
def rdK (K T : Int) (s0 : Nat) : Prop := 1 ≤ K ∧ K ≤ 20 ∧ K ≠ (s0 : Int) ∧ 1 ≤ T ∧ T ≤ 10000
noncomputable def rdR (sg : Nat → Nat) (le s0 n : Nat) : Nat → Nat → Nat → (Nat → Nat) → Bool × Nat × Nat × (Nat → Nat)
  | 0, w1, w2, tt => (false, w1, w2, tt)
  | f + 1, _, w2, tt => if wS sg le w2 < wE sg le w2 then (@ite _ (wIs sg (wS sg le w2) (wE sg le w2) 1 = true ∧ rdK (nmV sg le (wE sg le w2)) (nmV sg le (wE sg le (wE sg le w2))) s0) (Classical.propDecidable _) (rdR sg le s0 n f (wS sg le (wE sg le (wE sg le w2))) (wE sg le (wE sg le (wE sg le w2))) (updN tt (n * 21 + (nmV sg le (wE sg le w2)).toNat) (nmV sg le (wE sg le (wE sg le w2))).toNat)) (false, wS sg le (wE sg le (wE sg le w2)), wE sg le (wE sg le (wE sg le w2)), tt)) else (true, wS sg le w2, wE sg le w2, tt)
theorem rdR_e {sg : Nat → Nat} {le s0 n f w1 w2 : Nat} {tt : Nat → Nat} (h : ¬ wS sg le w2 < wE sg le w2) : rdR sg le s0 n (f + 1) w1 w2 tt = (true, wS sg le w2, wE sg le w2, tt) := by rw [rdR, if_neg h]
theorem rdR_f {sg : Nat → Nat} {le s0 n f w1 w2 : Nat} {tt : Nat → Nat} (h : wS sg le w2 < wE sg le w2) (h2 : ¬ (wIs sg (wS sg le w2) (wE sg le w2) 1 = true ∧ rdK (nmV sg le (wE sg le w2)) (nmV sg le (wE sg le (wE sg le w2))) s0)) : rdR sg le s0 n (f + 1) w1 w2 tt = (false, wS sg le (wE sg le (wE sg le w2)), wE sg le (wE sg le (wE sg le w2)), tt) := by rw [rdR, if_pos h, if_neg h2]
theorem rdR_t {sg : Nat → Nat} {le s0 n f w1 w2 k9 t9 : Nat} {tt : Nat → Nat} (h : wS sg le w2 < wE sg le w2) (h1 : wIs sg (wS sg le w2) (wE sg le w2) 1 = true) (h2 : rdK (nmV sg le (wE sg le w2)) (nmV sg le (wE sg le (wE sg le w2))) s0) (hk : nmV sg le (wE sg le w2) = (k9 : Int)) (ht : nmV sg le (wE sg le (wE sg le w2)) = (t9 : Int)) : rdR sg le s0 n (f + 1) w1 w2 tt = rdR sg le s0 n f (wS sg le (wE sg le (wE sg le w2))) (wE sg le (wE sg le (wE sg le w2))) (updN tt (n * 21 + k9) t9) := by
  rw [rdR, if_pos h, if_pos ⟨h1, h2⟩, hk, ht]
  rfl
end
section
set_option maxHeartbeats 4000000 in
set_option maxRecDepth 100000 in
theorem c_X_signAt_in (l : Launch) (D : va_G) (cI cC : ClassId) (E : Nat → Nat) (x : Nat → Nat) (sg : Nat → Nat) (ln : Nat) (lo : Bool) (i : Nat) (hX0 : TxtOK sg ln) (hi : i < ln) : CI l D (TY cI cC E) m_X_signAt (rmD 0) [.ref (x 0), .int (nI i)] ((TxtW x cC sg ln lo)) (nI (sg i)) ((TxtW x cC sg ln lo)) := by
  obtain ⟨hln, hsg⟩ := id hX0
  refine CI.of (by decide +kernel) (of_decide_eq_true rfl) ?_
  intro p e s m args below meth c C hr
  refine V.iload_n C (n := 1) (j := 1) d_X_signAt_0 rfl rfl rfl ?_
  refine V.ifn_lt C (tgt := 21) (n := 4) (by omega) d_X_signAt_1 (by decide) rfl (fun c1_1 => ?_) (fun c1_1 => ?_)
  · exfalso; omega
  · refine V.iload_n C (n := 5) (j := 1) d_X_signAt_4 rfl rfl rfl ?_
    refine V.aload_n C (n := 6) (j := 0) d_X_signAt_5 rfl rfl rfl ?_
    refine V.get C (n := 9) (q0 := 0) (k0 := 1) clOk_3 rfl (by decide) rfl fl_X_15 rfl d_X_signAt_6 rfl ?_
    refine V.icmpn_ge C (tgt := 21) (n := 12) (by omega) (by omega) d_X_signAt_9 (by decide) rfl (fun c9_2 => ?_) (fun c9_2 => ?_)
    · exfalso; omega
    · refine V.aload_n C (n := 13) (j := 0) d_X_signAt_12 rfl rfl rfl ?_
      refine V.get C (n := 16) (q0 := 0) (k0 := 0) clOk_3 rfl (by decide) rfl fl_X_9 rfl d_X_signAt_13 rfl ?_
      refine V.iload_n C (n := 17) (j := 1) d_X_signAt_16 rfl rfl rfl ?_
      refine V.caload_n C (n := 18) (q0 := 1) (t0 := 1) (i := i) rfl rfl (by omega) (by decide) d_X_signAt_17 rfl ?_
      have b_1 := hsg (i)
      refine V.goto C (n := 22) d_X_signAt_18 (by decide) ?_
      exact V.iret C hr d_X_signAt_22 (rfl) (rfl)
set_option maxHeartbeats 4000000 in
set_option maxRecDepth 100000 in
theorem c_P_nextWord (l : Launch) (D : va_G) (cI cC : ClassId) (E : Nat → Nat) (y x : Nat → Nat) (sg : Nat → Nat) (ln : Nat) (lo : Bool) (ws we le : Nat) (hX0 : TxtOK sg ln) (hle : le ≤ ln) (hwe : we ≤ 2000) : CI l D (TY cI cC E) m_P_nextWord (rmD 1) [.ref (y 0)] ((ParW y (x 0) ws we le) ++ (TxtW x cC sg ln lo)) (bI (wS sg le we < wE sg le we)) ((ParW y (x 0) (wS sg le we) (wE sg le we) le) ++ (TxtW x cC sg ln lo)) := by
  obtain ⟨hln, hsg⟩ := id hX0
  refine CI.of (by decide +kernel) (of_decide_eq_true rfl) ?_
  intro p e s m args below meth c C hr
  refine V.aload_n C (n := 1) (j := 0) d_P_nextWord_0 rfl rfl rfl ?_
  refine V.aload_n C (n := 2) (j := 0) d_P_nextWord_1 rfl rfl rfl ?_
  refine V.get C (n := 5) (q0 := 0) (k0 := 2) clOk_4 rfl (by decide) rfl fl_P_15 rfl d_P_nextWord_2 rfl ?_
  refine V.put C (n := 8) (q0 := 0) (k0 := 1) (ws' := (ParW y (x 0) we we le) ++ (TxtW x cC sg ln lo)) clOk_4 rfl (by decide) rfl rfl fl_P_9 rfl rfl (of_decide_eq_true rfl) rfl d_P_nextWord_5 rfl ?_
  refine V.ind1 C (fun (i : Nat) => (ParW y (x 0) i we le) ++ (TxtW x cC sg ln lo)) (fun (i : Nat) => [(0, .ref (y 0))]) (fun (i : Nat) => (i ≤ 2000) ∧ (wS sg le i = wS sg le we)) (fun (i : Nat) => 2000 - i) (we) ⟨by omega, rfl⟩ rfl rfl ?_
  rintro i ⟨hi, hq⟩ ih8
  try dsimp only
  refine V.aload_n C (n := 9) (j := 0) d_P_nextWord_8 rfl rfl rfl ?_
  refine V.get C (n := 12) (q0 := 0) (k0 := 1) clOk_4 rfl (by decide) rfl fl_P_9 rfl d_P_nextWord_9 rfl ?_
  refine V.aload_n C (n := 13) (j := 0) d_P_nextWord_12 rfl rfl rfl ?_
  refine V.get C (n := 16) (q0 := 0) (k0 := 3) clOk_4 rfl (by decide) rfl fl_P_18 rfl d_P_nextWord_13 rfl ?_
  refine V.icmpn_ge C (tgt := 48) (n := 19) (by omega) (by omega) d_P_nextWord_16 (by decide) rfl (fun c16_1 => ?_) (fun c16_1 => ?_)
  · have hws : wS sg le we = i := by rw [← hq]; exact skq_e (by omega)
    refine V.aload_n C (n := 49) (j := 0) d_P_nextWord_48 rfl rfl rfl ?_
    refine V.aload_n C (n := 50) (j := 0) d_P_nextWord_49 rfl rfl rfl ?_
    refine V.get C (n := 53) (q0 := 0) (k0 := 1) clOk_4 rfl (by decide) rfl fl_P_9 rfl d_P_nextWord_50 rfl ?_
    refine V.put C (n := 56) (q0 := 0) (k0 := 2) (ws' := (ParW y (x 0) i i le) ++ (TxtW x cC sg ln lo)) clOk_4 rfl (by decide) rfl rfl fl_P_15 rfl rfl (of_decide_eq_true rfl) rfl d_P_nextWord_53 rfl ?_
    refine V.ind1 C (fun (j : Nat) => (ParW y (x 0) i j le) ++ (TxtW x cC sg ln lo)) (fun (j : Nat) => [(0, .ref (y 0))]) (fun (j : Nat) => (j ≤ 2000) ∧ (skq (noSp sg) le j = skq (noSp sg) le i)) (fun (j : Nat) => 2000 - j) (i) ⟨by omega, rfl⟩ rfl rfl ?_
    rintro j ⟨hj, hr9⟩ ih56
    try dsimp only
    refine V.aload_n C (n := 57) (j := 0) d_P_nextWord_56 rfl rfl rfl ?_
    refine V.get C (n := 60) (q0 := 0) (k0 := 2) clOk_4 rfl (by decide) rfl fl_P_15 rfl d_P_nextWord_57 rfl ?_
    refine V.aload_n C (n := 61) (j := 0) d_P_nextWord_60 rfl rfl rfl ?_
    refine V.get C (n := 64) (q0 := 0) (k0 := 3) clOk_4 rfl (by decide) rfl fl_P_18 rfl d_P_nextWord_61 rfl ?_
    refine V.icmpn_ge C (tgt := 96) (n := 67) (by omega) (by omega) d_P_nextWord_64 (by decide) rfl (fun c64_2 => ?_) (fun c64_2 => ?_)
    · have hwe9 : wE sg le we = j := by rw [wE, hws, ← hr9]; exact skq_e (by omega)
      refine V.aload_n C (n := 97) (j := 0) d_P_nextWord_96 rfl rfl rfl ?_
      refine V.get C (n := 100) (q0 := 0) (k0 := 2) clOk_4 rfl (by decide) rfl fl_P_15 rfl d_P_nextWord_97 rfl ?_
      refine V.aload_n C (n := 101) (j := 0) d_P_nextWord_100 rfl rfl rfl ?_
      refine V.get C (n := 104) (q0 := 0) (k0 := 1) clOk_4 rfl (by decide) rfl fl_P_9 rfl d_P_nextWord_101 rfl ?_
      refine V.icmpn_le C (tgt := 111) (n := 107) (by omega) (by omega) d_P_nextWord_104 (by decide) rfl (fun c104_3 => ?_) (fun c104_3 => ?_)
      · refine V.iconst C (v := nI 0) (n := 112) d_P_nextWord_111 (by decide) rfl ?_
        exact V.zret C hr (bI_nar _) d_P_nextWord_112 (by rw [hws, hwe9]; first | exact bI_1 (by omega) | exact bI_0 (by omega)) (by rw [hws, hwe9])
      · refine V.iconst C (v := nI 1) (n := 108) d_P_nextWord_107 (by decide) rfl ?_
        refine V.goto C (n := 112) d_P_nextWord_108 (by decide) ?_
        exact V.zret C hr (bI_nar _) d_P_nextWord_112 (by rw [hws, hwe9]; first | exact bI_1 (by omega) | exact bI_0 (by omega)) (by rw [hws, hwe9])
    · refine V.aload_n C (n := 68) (j := 0) d_P_nextWord_67 rfl rfl rfl ?_
      refine V.get C (n := 71) (q0 := 0) (k0 := 0) clOk_4 rfl (by decide) rfl fl_P_21 rfl d_P_nextWord_68 rfl ?_
      refine V.aload_n C (n := 72) (j := 0) d_P_nextWord_71 rfl rfl rfl ?_
      refine V.get C (n := 75) (q0 := 0) (k0 := 2) clOk_4 rfl (by decide) rfl fl_P_15 rfl d_P_nextWord_72 rfl ?_
      refine V.callV_i C (n := 78) (ws' := (ParW y (x 0) i j le) ++ (TxtW x cC sg ln lo)) (c_X_signAt_in l D cI cC E (x) (sg) (ln) (lo) (j) (by first | assumption | omega) (by first | assumption | omega)) cw_P_36 [1, 2] [0] [0, 1, 2] (qr := 0) rfl rfl rfl (of_decide_eq_true rfl) rfl (of_decide_eq_true rfl) rfl (of_decide_eq_true rfl) rfl (of_decide_eq_true rfl) rfl ⟨rfl, rfl⟩ ⟨by decide, by decide⟩ ⟨by decide, by decide⟩ rfl rfl (of_decide_eq_true rfl) d_P_nextWord_75 rfl ?_
      have b_1 := hsg (j)
      refine V.bipush C (v := nI 32) (n := 80) d_P_nextWord_78 (by decide) rfl ?_
      refine V.icmpn_eq C (tgt := 96) (n := 83) (by omega) (by omega) d_P_nextWord_80 (by decide) rfl (fun c80_4 => ?_) (fun c80_4 => ?_)
      · have hwe9 : wE sg le we = j := by rw [wE, hws, ← hr9]; exact skq_f (by show ¬ decide _ = true; simp only [decide_eq_true_eq]; omega)
        refine V.aload_n C (n := 97) (j := 0) d_P_nextWord_96 rfl rfl rfl ?_
        refine V.get C (n := 100) (q0 := 0) (k0 := 2) clOk_4 rfl (by decide) rfl fl_P_15 rfl d_P_nextWord_97 rfl ?_
        refine V.aload_n C (n := 101) (j := 0) d_P_nextWord_100 rfl rfl rfl ?_
        refine V.get C (n := 104) (q0 := 0) (k0 := 1) clOk_4 rfl (by decide) rfl fl_P_9 rfl d_P_nextWord_101 rfl ?_
        refine V.icmpn_le C (tgt := 111) (n := 107) (by omega) (by omega) d_P_nextWord_104 (by decide) rfl (fun c104_5 => ?_) (fun c104_5 => ?_)
        · refine V.iconst C (v := nI 0) (n := 112) d_P_nextWord_111 (by decide) rfl ?_
          exact V.zret C hr (bI_nar _) d_P_nextWord_112 (by rw [hws, hwe9]; first | exact bI_1 (by omega) | exact bI_0 (by omega)) (by rw [hws, hwe9])
        · refine V.iconst C (v := nI 1) (n := 108) d_P_nextWord_107 (by decide) rfl ?_
          refine V.goto C (n := 112) d_P_nextWord_108 (by decide) ?_
          exact V.zret C hr (bI_nar _) d_P_nextWord_112 (by rw [hws, hwe9]; first | exact bI_1 (by omega) | exact bI_0 (by omega)) (by rw [hws, hwe9])
      · refine V.aload_n C (n := 84) (j := 0) d_P_nextWord_83 rfl rfl rfl ?_
        refine V.dup C (n := 85) d_P_nextWord_84 rfl rfl ?_
        refine V.get C (n := 88) (q0 := 0) (k0 := 2) clOk_4 rfl (by decide) rfl fl_P_15 rfl d_P_nextWord_85 rfl ?_
        refine V.iconst C (v := nI 1) (n := 89) d_P_nextWord_88 (by decide) rfl ?_
        refine V.iadd_n C (n := 90) d_P_nextWord_89 rfl ?_
        refine V.put C (n := 93) (q0 := 0) (k0 := 2) (ws' := (ParW y (x 0) i (j + 1) le) ++ (TxtW x cC sg ln lo)) clOk_4 rfl (by decide) rfl rfl fl_P_15 rfl rfl (of_decide_eq_true rfl) rfl d_P_nextWord_90 rfl ?_
        refine V.goto C (n := 56) d_P_nextWord_93 (by decide) ?_
        exact ih56 (j + 1) ⟨by omega, by rw [← hr9]; exact (skq_t (by omega) (decide_eq_true (by omega))).symm⟩ (by omega)
  · refine V.aload_n C (n := 20) (j := 0) d_P_nextWord_19 rfl rfl rfl ?_
    refine V.get C (n := 23) (q0 := 0) (k0 := 0) clOk_4 rfl (by decide) rfl fl_P_21 rfl d_P_nextWord_20 rfl ?_
    refine V.aload_n C (n := 24) (j := 0) d_P_nextWord_23 rfl rfl rfl ?_
    refine V.get C (n := 27) (q0 := 0) (k0 := 1) clOk_4 rfl (by decide) rfl fl_P_9 rfl d_P_nextWord_24 rfl ?_
    refine V.callV_i C (n := 30) (ws' := (ParW y (x 0) i we le) ++ (TxtW x cC sg ln lo)) (c_X_signAt_in l D cI cC E (x) (sg) (ln) (lo) (i) (by first | assumption | omega) (by first | assumption | omega)) cw_P_36 [1, 2] [0] [0, 1, 2] (qr := 0) rfl rfl rfl (of_decide_eq_true rfl) rfl (of_decide_eq_true rfl) rfl (of_decide_eq_true rfl) rfl (of_decide_eq_true rfl) rfl ⟨rfl, rfl⟩ ⟨by decide, by decide⟩ ⟨by decide, by decide⟩ rfl rfl (of_decide_eq_true rfl) d_P_nextWord_27 rfl ?_
    have b_2 := hsg (i)
    refine V.bipush C (v := nI 32) (n := 32) d_P_nextWord_30 (by decide) rfl ?_
    refine V.icmpn_ne C (tgt := 48) (n := 35) (by omega) (by omega) d_P_nextWord_32 (by decide) rfl (fun c32_6 => ?_) (fun c32_6 => ?_)
    · have hws : wS sg le we = i := by rw [← hq]; exact skq_f (by show ¬ decide _ = true; simp only [decide_eq_true_eq]; omega)
      refine V.aload_n C (n := 49) (j := 0) d_P_nextWord_48 rfl rfl rfl ?_
      refine V.aload_n C (n := 50) (j := 0) d_P_nextWord_49 rfl rfl rfl ?_
      refine V.get C (n := 53) (q0 := 0) (k0 := 1) clOk_4 rfl (by decide) rfl fl_P_9 rfl d_P_nextWord_50 rfl ?_
      refine V.put C (n := 56) (q0 := 0) (k0 := 2) (ws' := (ParW y (x 0) i i le) ++ (TxtW x cC sg ln lo)) clOk_4 rfl (by decide) rfl rfl fl_P_15 rfl rfl (of_decide_eq_true rfl) rfl d_P_nextWord_53 rfl ?_
      refine V.ind1 C (fun (j : Nat) => (ParW y (x 0) i j le) ++ (TxtW x cC sg ln lo)) (fun (j : Nat) => [(0, .ref (y 0))]) (fun (j : Nat) => (j ≤ 2000) ∧ (skq (noSp sg) le j = skq (noSp sg) le i)) (fun (j : Nat) => 2000 - j) (i) ⟨by omega, rfl⟩ rfl rfl ?_
      rintro j ⟨hj, hr9⟩ ih56
      try dsimp only
      refine V.aload_n C (n := 57) (j := 0) d_P_nextWord_56 rfl rfl rfl ?_
      refine V.get C (n := 60) (q0 := 0) (k0 := 2) clOk_4 rfl (by decide) rfl fl_P_15 rfl d_P_nextWord_57 rfl ?_
      refine V.aload_n C (n := 61) (j := 0) d_P_nextWord_60 rfl rfl rfl ?_
      refine V.get C (n := 64) (q0 := 0) (k0 := 3) clOk_4 rfl (by decide) rfl fl_P_18 rfl d_P_nextWord_61 rfl ?_
      refine V.icmpn_ge C (tgt := 96) (n := 67) (by omega) (by omega) d_P_nextWord_64 (by decide) rfl (fun c64_7 => ?_) (fun c64_7 => ?_)
      · have hwe9 : wE sg le we = j := by rw [wE, hws, ← hr9]; exact skq_e (by omega)
        refine V.aload_n C (n := 97) (j := 0) d_P_nextWord_96 rfl rfl rfl ?_
        refine V.get C (n := 100) (q0 := 0) (k0 := 2) clOk_4 rfl (by decide) rfl fl_P_15 rfl d_P_nextWord_97 rfl ?_
        refine V.aload_n C (n := 101) (j := 0) d_P_nextWord_100 rfl rfl rfl ?_
        refine V.get C (n := 104) (q0 := 0) (k0 := 1) clOk_4 rfl (by decide) rfl fl_P_9 rfl d_P_nextWord_101 rfl ?_
        refine V.icmpn_le C (tgt := 111) (n := 107) (by omega) (by omega) d_P_nextWord_104 (by decide) rfl (fun c104_8 => ?_) (fun c104_8 => ?_)
        · refine V.iconst C (v := nI 0) (n := 112) d_P_nextWord_111 (by decide) rfl ?_
          exact V.zret C hr (bI_nar _) d_P_nextWord_112 (by rw [hws, hwe9]; first | exact bI_1 (by omega) | exact bI_0 (by omega)) (by rw [hws, hwe9])
        · refine V.iconst C (v := nI 1) (n := 108) d_P_nextWord_107 (by decide) rfl ?_
          refine V.goto C (n := 112) d_P_nextWord_108 (by decide) ?_
          exact V.zret C hr (bI_nar _) d_P_nextWord_112 (by rw [hws, hwe9]; first | exact bI_1 (by omega) | exact bI_0 (by omega)) (by rw [hws, hwe9])
      · refine V.aload_n C (n := 68) (j := 0) d_P_nextWord_67 rfl rfl rfl ?_
        refine V.get C (n := 71) (q0 := 0) (k0 := 0) clOk_4 rfl (by decide) rfl fl_P_21 rfl d_P_nextWord_68 rfl ?_
        refine V.aload_n C (n := 72) (j := 0) d_P_nextWord_71 rfl rfl rfl ?_
        refine V.get C (n := 75) (q0 := 0) (k0 := 2) clOk_4 rfl (by decide) rfl fl_P_15 rfl d_P_nextWord_72 rfl ?_
        refine V.callV_i C (n := 78) (ws' := (ParW y (x 0) i j le) ++ (TxtW x cC sg ln lo)) (c_X_signAt_in l D cI cC E (x) (sg) (ln) (lo) (j) (by first | assumption | omega) (by first | assumption | omega)) cw_P_36 [1, 2] [0] [0, 1, 2] (qr := 0) rfl rfl rfl (of_decide_eq_true rfl) rfl (of_decide_eq_true rfl) rfl (of_decide_eq_true rfl) rfl (of_decide_eq_true rfl) rfl ⟨rfl, rfl⟩ ⟨by decide, by decide⟩ ⟨by decide, by decide⟩ rfl rfl (of_decide_eq_true rfl) d_P_nextWord_75 rfl ?_
        have b_3 := hsg (j)
        refine V.bipush C (v := nI 32) (n := 80) d_P_nextWord_78 (by decide) rfl ?_
        refine V.icmpn_eq C (tgt := 96) (n := 83) (by omega) (by omega) d_P_nextWord_80 (by decide) rfl (fun c80_9 => ?_) (fun c80_9 => ?_)
        · have hwe9 : wE sg le we = j := by rw [wE, hws, ← hr9]; exact skq_f (by show ¬ decide _ = true; simp only [decide_eq_true_eq]; omega)
          refine V.aload_n C (n := 97) (j := 0) d_P_nextWord_96 rfl rfl rfl ?_
          refine V.get C (n := 100) (q0 := 0) (k0 := 2) clOk_4 rfl (by decide) rfl fl_P_15 rfl d_P_nextWord_97 rfl ?_
          refine V.aload_n C (n := 101) (j := 0) d_P_nextWord_100 rfl rfl rfl ?_
          refine V.get C (n := 104) (q0 := 0) (k0 := 1) clOk_4 rfl (by decide) rfl fl_P_9 rfl d_P_nextWord_101 rfl ?_
          refine V.icmpn_le C (tgt := 111) (n := 107) (by omega) (by omega) d_P_nextWord_104 (by decide) rfl (fun c104_10 => ?_) (fun c104_10 => ?_)
          · refine V.iconst C (v := nI 0) (n := 112) d_P_nextWord_111 (by decide) rfl ?_
            exact V.zret C hr (bI_nar _) d_P_nextWord_112 (by rw [hws, hwe9]; first | exact bI_1 (by omega) | exact bI_0 (by omega)) (by rw [hws, hwe9])
          · refine V.iconst C (v := nI 1) (n := 108) d_P_nextWord_107 (by decide) rfl ?_
            refine V.goto C (n := 112) d_P_nextWord_108 (by decide) ?_
            exact V.zret C hr (bI_nar _) d_P_nextWord_112 (by rw [hws, hwe9]; first | exact bI_1 (by omega) | exact bI_0 (by omega)) (by rw [hws, hwe9])
        · refine V.aload_n C (n := 84) (j := 0) d_P_nextWord_83 rfl rfl rfl ?_
          refine V.dup C (n := 85) d_P_nextWord_84 rfl rfl ?_
          refine V.get C (n := 88) (q0 := 0) (k0 := 2) clOk_4 rfl (by decide) rfl fl_P_15 rfl d_P_nextWord_85 rfl ?_
          refine V.iconst C (v := nI 1) (n := 89) d_P_nextWord_88 (by decide) rfl ?_
          refine V.iadd_n C (n := 90) d_P_nextWord_89 rfl ?_
          refine V.put C (n := 93) (q0 := 0) (k0 := 2) (ws' := (ParW y (x 0) i (j + 1) le) ++ (TxtW x cC sg ln lo)) clOk_4 rfl (by decide) rfl rfl fl_P_15 rfl rfl (of_decide_eq_true rfl) rfl d_P_nextWord_90 rfl ?_
          refine V.goto C (n := 56) d_P_nextWord_93 (by decide) ?_
          exact ih56 (j + 1) ⟨by omega, by rw [← hr9]; exact (skq_t (by omega) (decide_eq_true (by omega))).symm⟩ (by omega)
    · refine V.aload_n C (n := 36) (j := 0) d_P_nextWord_35 rfl rfl rfl ?_
      refine V.dup C (n := 37) d_P_nextWord_36 rfl rfl ?_
      refine V.get C (n := 40) (q0 := 0) (k0 := 1) clOk_4 rfl (by decide) rfl fl_P_9 rfl d_P_nextWord_37 rfl ?_
      refine V.iconst C (v := nI 1) (n := 41) d_P_nextWord_40 (by decide) rfl ?_
      refine V.iadd_n C (n := 42) d_P_nextWord_41 rfl ?_
      refine V.put C (n := 45) (q0 := 0) (k0 := 1) (ws' := (ParW y (x 0) (i + 1) we le) ++ (TxtW x cC sg ln lo)) clOk_4 rfl (by decide) rfl rfl fl_P_9 rfl rfl (of_decide_eq_true rfl) rfl d_P_nextWord_42 rfl ?_
      refine V.goto C (n := 8) d_P_nextWord_45 (by decide) ?_
      exact ih8 (i + 1) ⟨by omega, by rw [← hq]; exact (skq_t (by omega) (decide_eq_true (by omega))).symm⟩ (by omega)
set_option maxHeartbeats 4000000 in
set_option maxRecDepth 100000 in
theorem c_P_nextNumber (l : Launch) (D : va_G) (cI cC : ClassId) (E : Nat → Nat) (y x : Nat → Nat) (sg : Nat → Nat) (ln : Nat) (lo : Bool) (ws we le : Nat) (hX0 : TxtOK sg ln) (hle : le ≤ ln) (hwe : we ≤ 2000) : CI l D (TY cI cC E) m_P_nextNumber (rmD 2) [.ref (y 0)] ((ParW y (x 0) ws we le) ++ (TxtW x cC sg ln lo)) (iI (nmV sg le we)) ((ParW y (x 0) (wS sg le we) (wE sg le we) le) ++ (TxtW x cC sg ln lo)) := by
  obtain ⟨hln, hsg⟩ := id hX0
  have r1 := wS_rng sg le we
  have r2 := wE_rng sg le we
  refine CI.of (by decide +kernel) (of_decide_eq_true rfl) ?_
  intro p e s m args below meth c C hr
  refine V.aload_n C (n := 1) (j := 0) d_P_nextNumber_0 rfl rfl rfl ?_
  refine V.callV_i C (n := 4) (ws' := (ParW y (x 0) (wS sg le we) (wE sg le we) le) ++ (TxtW x cC sg ln lo)) (c_P_nextWord l D cI cC E (y) (x) (sg) (ln) (lo) (ws) (we) (le) (by first | assumption | omega) (by first | assumption | omega) (by first | assumption | omega)) cw_P_44 [0, 1, 2] [] [0, 1, 2] (qr := 0) rfl rfl rfl (of_decide_eq_true rfl) rfl (of_decide_eq_true rfl) rfl (of_decide_eq_true rfl) rfl (of_decide_eq_true rfl) rfl ⟨rfl, rfl⟩ ⟨by decide, by decide⟩ ⟨by decide, by decide⟩ rfl rfl (of_decide_eq_true rfl) d_P_nextNumber_1 rfl ?_
  refine V.ifb_eq C (tgt := 21) (n := 7) d_P_nextNumber_4 (by decide) rfl (fun c4_1 => ?_) (fun c4_1 => ?_)
  · refine V.iconst C (v := iI (-1)) (n := 22) d_P_nextNumber_21 (by decide) rfl ?_
    exact V.iret C hr d_P_nextNumber_22 (by rw [nmV, if_neg (by omega)]) (rfl)
  · refine V.aload_n C (n := 8) (j := 0) d_P_nextNumber_7 rfl rfl rfl ?_
    refine V.get C (n := 11) (q0 := 0) (k0 := 2) clOk_4 rfl (by decide) rfl fl_P_15 rfl d_P_nextNumber_8 rfl ?_
    refine V.aload_n C (n := 12) (j := 0) d_P_nextNumber_11 rfl rfl rfl ?_
    refine V.get C (n := 15) (q0 := 0) (k0 := 1) clOk_4 rfl (by decide) rfl fl_P_9 rfl d_P_nextNumber_12 rfl ?_
    refine V.isub_n C (n := 16) d_P_nextNumber_15 (by omega) rfl ?_
    refine V.bipush C (v := nI 6) (n := 18) d_P_nextNumber_16 (by decide) rfl ?_
    refine V.icmpn_le C (tgt := 23) (n := 21) (by omega) (by omega) d_P_nextNumber_18 (by decide) rfl (fun c18_2 => ?_) (fun c18_2 => ?_)
    · refine V.iconst C (v := nI 0) (n := 24) d_P_nextNumber_23 (by decide) rfl ?_
      refine V.istore_n C (n := 25) (lv' := [(0, .ref (y 0)), (1, .int (nI 0))]) [1, 0] d_P_nextNumber_24 rfl (by decide) rfl rfl ?_
      refine V.aload_n C (n := 26) (j := 0) d_P_nextNumber_25 rfl rfl rfl ?_
      refine V.get C (n := 29) (q0 := 0) (k0 := 1) clOk_4 rfl (by decide) rfl fl_P_9 rfl d_P_nextNumber_26 rfl ?_
      refine V.istore_n C (n := 30) (lv' := [(0, .ref (y 0)), (1, .int (nI 0)), (2, .int (nI (wS sg le we)))]) [1, 2, 0] d_P_nextNumber_29 rfl (by decide) rfl rfl ?_
      refine V.lsub C [0, 1, 2] (lv' := [(0, .ref (y 0)), (1, .int (nI 0)), (2, .int (nI (wS sg le we)))]) rfl ?_
      refine V.ind2 C (fun (j : Nat) (v : Nat) => (ParW y (x 0) (wS sg le we) (wE sg le we) le) ++ (TxtW x cC sg ln lo)) (fun (j : Nat) (v : Nat) => [(0, .ref (y 0)), (1, .int (nI v)), (2, .int (nI ((wS sg le we) + j)))]) (fun (j : Nat) (v : Nat) => ((wS sg le we) + j ≤ (wE sg le we)) ∧ (dgs sg (wS sg le we) j = ((v : Nat) : Int)) ∧ (v < 10 ^ j)) (fun (j : Nat) (v : Nat) => (wE sg le we) - (wS sg le we) - j) (0) (0) ⟨by omega, rfl, by decide⟩ rfl rfl ?_
      rintro j v ⟨hj, hv, hb⟩ ih30
      try dsimp only
      have hp6 : 10 ^ j ≤ 10 ^ 6 := Nat.pow_le_pow_right (by decide) (by omega)
      have h106 : (10 : Nat) ^ 6 = 1000000 := by decide
      refine V.iload_n C (n := 31) (j := 2) d_P_nextNumber_30 rfl rfl rfl ?_
      refine V.aload_n C (n := 32) (j := 0) d_P_nextNumber_31 rfl rfl rfl ?_
      refine V.get C (n := 35) (q0 := 0) (k0 := 2) clOk_4 rfl (by decide) rfl fl_P_15 rfl d_P_nextNumber_32 rfl ?_
      refine V.icmpn_ge C (tgt := 75) (n := 38) (by omega) (by omega) d_P_nextNumber_35 (by decide) rfl (fun c35_3 => ?_) (fun c35_3 => ?_)
      · refine V.iload_n C (n := 76) (j := 1) d_P_nextNumber_75 rfl rfl rfl ?_
        exact V.iret C hr d_P_nextNumber_76 (by rw [nmV, if_pos ⟨by omega, by omega⟩, show (wE sg le we) - (wS sg le we) = j by omega, hv, iI_nat]) (rfl)
      · refine V.aload_n C (n := 39) (j := 0) d_P_nextNumber_38 rfl rfl rfl ?_
        refine V.get C (n := 42) (q0 := 0) (k0 := 0) clOk_4 rfl (by decide) rfl fl_P_21 rfl d_P_nextNumber_39 rfl ?_
        refine V.iload_n C (n := 43) (j := 2) d_P_nextNumber_42 rfl rfl rfl ?_
        refine V.callV_i C (n := 46) (ws' := (ParW y (x 0) (wS sg le we) (wE sg le we) le) ++ (TxtW x cC sg ln lo)) (c_X_signAt_in l D cI cC E (x) (sg) (ln) (lo) ((wS sg le we) + j) (by first | assumption | omega) (by first | assumption | omega)) cw_P_36 [1, 2] [0] [0, 1, 2] (qr := 0) rfl rfl rfl (of_decide_eq_true rfl) rfl (of_decide_eq_true rfl) rfl (of_decide_eq_true rfl) rfl (of_decide_eq_true rfl) rfl ⟨rfl, rfl⟩ ⟨by decide, by decide⟩ ⟨by decide, by decide⟩ rfl rfl (of_decide_eq_true rfl) d_P_nextNumber_43 rfl ?_
        have b_1 := hsg (((wS sg le we) + j))
        refine V.bipush C (v := nI 48) (n := 48) d_P_nextNumber_46 (by decide) rfl ?_
        refine V.isub_z C (n := 49) d_P_nextNumber_48 (nI_iI (sg ((wS sg le we) + j))) (nI_iI (48)) rfl ?_
        refine V.istore_n C (n := 50) (lv' := [(0, .ref (y 0)), (1, .int (nI v)), (2, .int (nI ((wS sg le we) + j))), (3, .int (iI (((sg ((wS sg le we) + j) : Nat) : Int) - (((48 : Nat) : Int)))))]) [1, 2, 3, 0] d_P_nextNumber_49 rfl (by decide) rfl rfl ?_
        refine V.iload_n C (n := 51) (j := 3) d_P_nextNumber_50 rfl rfl rfl ?_
        refine V.if_lt C (tgt := 60) (n := 54) (iI_toInt (by omega) (by omega)) d_P_nextNumber_51 (by decide) rfl (fun c51_4 => ?_) (fun c51_4 => ?_)
        · refine V.iconst C (v := iI (-1)) (n := 61) d_P_nextNumber_60 (by decide) rfl ?_
          exact V.iret C hr d_P_nextNumber_61 (by rw [nmV, if_pos ⟨by omega, by omega⟩, dgs_bad (j := j) (by omega) (by omega)]) (rfl)
        · refine V.iload_n C (n := 55) (j := 3) d_P_nextNumber_54 rfl rfl rfl ?_
          refine V.bipush C (v := nI 9) (n := 57) d_P_nextNumber_55 (by decide) rfl ?_
          refine V.icmp_le C (tgt := 62) (n := 60) (iI_toInt (by omega) (by omega)) (nT (by omega)) d_P_nextNumber_57 (by decide) rfl (fun c57_5 => ?_) (fun c57_5 => ?_)
          · refine V.iload_n C (n := 63) (j := 1) d_P_nextNumber_62 rfl rfl rfl ?_
            refine V.bipush C (v := nI 10) (n := 65) d_P_nextNumber_63 (by decide) rfl ?_
            refine V.imul_n C (n := 66) d_P_nextNumber_65 rfl ?_
            refine V.iload_n C (n := 67) (j := 3) d_P_nextNumber_66 rfl rfl rfl ?_
            refine V.iadd_z C (n := 68) d_P_nextNumber_67 (nI_iI (v * 10)) rfl rfl ?_
            refine V.cv C (y := nI (v * 10 + (sg ((wS sg le we) + j) - 48))) (iI_ton (by omega)) ?_
            refine V.istore_n C (n := 69) (lv' := [(0, .ref (y 0)), (1, .int (nI (v * 10 + (sg ((wS sg le we) + j) - 48)))), (2, .int (nI ((wS sg le we) + j))), (3, .int (iI (((sg ((wS sg le we) + j) : Nat) : Int) - (((48 : Nat) : Int)))))]) [1, 0, 2, 3] d_P_nextNumber_68 rfl (by decide) rfl rfl ?_
            refine V.iinc C (n := 72) (j := 2) (v := nI ((wS sg le we) + j + 1)) (lv' := [(0, .ref (y 0)), (1, .int (nI (v * 10 + (sg ((wS sg le we) + j) - 48)))), (2, .int (nI ((wS sg le we) + j + 1))), (3, .int (iI (((sg ((wS sg le we) + j) : Nat) : Int) - (((48 : Nat) : Int)))))]) [1, 2, 0, 3] d_P_nextNumber_69 rfl (nI_inc ((wS sg le we) + j) 1) (by decide) rfl rfl ?_
            refine V.goto C (n := 30) d_P_nextNumber_72 (by decide) ?_
            refine V.lsub C [0, 1, 2] (lv' := [(0, .ref (y 0)), (1, .int (nI (v * 10 + (sg ((wS sg le we) + j) - 48)))), (2, .int (nI ((wS sg le we) + j + 1)))]) rfl ?_
            refine V.lsub C [0, 1, 2] (lv' := [(0, .ref (y 0)), (1, .int (nI (v * 10 + (sg ((wS sg le we) + j) - 48)))), (2, .int (nI ((wS sg le we) + j + 1)))]) rfl ?_
            exact ih30 (j + 1) (v * 10 + (sg ((wS sg le we) + j) - 48)) ⟨by omega, dgs_ok hv (by omega), by rw [Nat.pow_succ]; omega⟩ (by omega)
          · refine V.iconst C (v := iI (-1)) (n := 61) d_P_nextNumber_60 (by decide) rfl ?_
            exact V.iret C hr d_P_nextNumber_61 (by rw [nmV, if_pos ⟨by omega, by omega⟩, dgs_bad (j := j) (by omega) (by omega)]) (rfl)
    · refine V.iconst C (v := iI (-1)) (n := 22) d_P_nextNumber_21 (by decide) rfl ?_
      exact V.iret C hr d_P_nextNumber_22 (by rw [nmV, if_neg (by omega)]) (rfl)
set_option maxHeartbeats 4000000 in
set_option maxRecDepth 100000 in
theorem c_X_addWord (l : Launch) (D : va_G) (cI cC : ClassId) (E : Nat → Nat) (x : Nat → Nat) (sg : Nat → Nat) (ln : Nat) (lo : Bool) (i9 : Nat) (hX0 : TxtOK sg ln) (hi9 : i9 < nSt) : CV l D (TY cI cC E) m_X_addWord (rmD 6) [.ref (x 0), .ref (E i9)] (TxtW x cC sg ln lo) (TxtW x cC ((wrdX (sg, ln, lo) i9 (sln i9)).1) ((wrdX (sg, ln, lo) i9 (sln i9)).2.1) ((wrdX (sg, ln, lo) i9 (sln i9)).2.2)) := by
  have hs9 := sln_le i9
  refine CN.of (by decide +kernel) (of_decide_eq_true rfl) ?_
  intro p e s m args below meth c C hr hin
  refine V.iconst C (v := nI 0) (n := 1) d_X_addWord_0 (by decide) rfl ?_
  refine V.istore_n C (n := 2) (lv' := [(0, .ref (x 0)), (1, .ref (E i9)), (2, .int (nI 0))]) [1, 2, 0] d_X_addWord_1 rfl (by decide) rfl rfl ?_
  refine V.ind2 C (fun (j : Nat) (T : TxS) => (TxtW x cC T.1 T.2.1 T.2.2)) (fun (j : Nat) (T : TxS) => [(0, .ref (x 0)), (1, .ref (E i9)), (2, .int (nI j))]) (fun (j : Nat) (T : TxS) => (j ≤ sln i9) ∧ (T = wrdX (sg, ln, lo) i9 j) ∧ (TxtOK T.1 T.2.1)) (fun (j : Nat) (T : TxS) => sln i9 - j) (0) ((sg, ln, lo)) ⟨by omega, rfl, hX0⟩ rfl rfl ?_
  rintro j T ⟨hj, hq, hTX⟩ ih2
  try dsimp only
  refine V.iload_n C (n := 3) (j := 2) d_X_addWord_2 rfl rfl rfl ?_
  refine V.aload_n C (n := 4) (j := 1) d_X_addWord_3 rfl rfl rfl ?_
  refine V.callK_i C (n := 7) (ws' := (TxtW x cC T.1 T.2.1 T.2.2)) (c_K_length l D cI cC E (i9) (by first | assumption | omega)) cw_X_23 [] [0, 1] [0, 1] (strRecv C (by first | assumption | omega)) rfl (of_decide_eq_true rfl) rfl (of_decide_eq_true rfl) rfl (of_decide_eq_true rfl) rfl (of_decide_eq_true rfl) rfl ⟨rfl, rfl⟩ ⟨by decide, by decide⟩ ⟨by decide, by decide⟩ rfl rfl (of_decide_eq_true rfl) d_X_addWord_4 rfl ?_
  have b_1 := sln_le (i9)
  refine V.icmpn_ge C (tgt := 25) (n := 10) (by omega) (by omega) d_X_addWord_7 (by decide) rfl (fun c7_1 => ?_) (fun c7_1 => ?_)
  · exact V.vret C hr d_X_addWord_25 () (trivial) (by rw [hq, show j = sln i9 by omega])
  · refine V.aload_n C (n := 11) (j := 0) d_X_addWord_10 rfl rfl rfl ?_
    refine V.aload_n C (n := 12) (j := 1) d_X_addWord_11 rfl rfl rfl ?_
    refine V.iload_n C (n := 13) (j := 2) d_X_addWord_12 rfl rfl rfl ?_
    refine V.callK_i C (n := 16) (ws' := (TxtW x cC T.1 T.2.1 T.2.2)) (c_K_charAt l D cI cC E (i9) (j) (by first | assumption | omega) (by first | assumption | omega)) cw_X_28 [] [0, 1] [0, 1] (strRecv C (by first | assumption | omega)) rfl (of_decide_eq_true rfl) rfl (of_decide_eq_true rfl) rfl (of_decide_eq_true rfl) rfl (of_decide_eq_true rfl) rfl ⟨rfl, rfl⟩ ⟨by decide, by decide⟩ ⟨by decide, by decide⟩ rfl rfl (of_decide_eq_true rfl) d_X_addWord_13 rfl ?_
    have b_2 := sch_le (i9) (j)
    refine V.callV_v C (n := 19) (ws2 := fun _ => (TxtW x cC ((addX (T.1, T.2.1, T.2.2) (sch i9 j)).1) ((addX (T.1, T.2.1, T.2.2) (sch i9 j)).2.1) ((addX (T.1, T.2.1, T.2.2) (sch i9 j)).2.2))) (c_X_add l D cI cC E (x) (T.1) (T.2.1) (T.2.2) (sch i9 j) hTX (by omega)) cw_X_32 [0, 1] [] [0, 1] (qr := 0) rfl rfl rfl (of_decide_eq_true rfl) rfl (of_decide_eq_true rfl) rfl (of_decide_eq_true rfl) (fun _ => rfl) (fun _ => of_decide_eq_true rfl) rfl ⟨rfl, rfl⟩ ⟨by decide, by decide⟩ ⟨by decide, by decide⟩ rfl rfl (of_decide_eq_true rfl) d_X_addWord_16 rfl (fun _ _ => ?_)
    refine V.iinc C (n := 22) (j := 2) (v := nI (j + 1)) (lv' := [(0, .ref (x 0)), (1, .ref (E i9)), (2, .int (nI (j + 1)))]) [1, 2, 0] d_X_addWord_19 rfl (nI_inc (j) 1) (by decide) rfl rfl ?_
    refine V.goto C (n := 2) d_X_addWord_22 (by decide) ?_
    exact ih2 (j + 1) (addX T (sch i9 j)) ⟨by omega, by rw [hq]; try rfl, addX_ok hTX (by omega)⟩ (by omega)
set_option maxHeartbeats 4000000 in
set_option maxRecDepth 100000 in
theorem c_P_wordIs (l : Launch) (D : va_G) (cI cC : ClassId) (E : Nat → Nat) (y x : Nat → Nat) (sg : Nat → Nat) (ln : Nat) (lo : Bool) (ws we le : Nat) (i9 : Nat) (hX0 : TxtOK sg ln) (hle : le ≤ ln) (hwe : we ≤ 2000) (hi9 : i9 < nSt) (hw1 : ws ≤ we) (hw2 : we ≤ ln) : CI l D (TY cI cC E) m_P_wordIs (rmD 6) [.ref (y 0), .ref (E i9)] ((ParW y (x 0) ws we le) ++ (TxtW x cC sg ln lo)) (bI (wIs sg ws we i9 = true)) ((ParW y (x 0) ws we le) ++ (TxtW x cC sg ln lo)) := by
  obtain ⟨hln, hsg⟩ := id hX0
  have hs9 := sln_le i9
  refine CI.of (by decide +kernel) (of_decide_eq_true rfl) ?_
  intro p e s m args below meth c C hr
  refine V.aload_n C (n := 1) (j := 0) d_P_wordIs_0 rfl rfl rfl ?_
  refine V.get C (n := 4) (q0 := 0) (k0 := 2) clOk_4 rfl (by decide) rfl fl_P_15 rfl d_P_wordIs_1 rfl ?_
  refine V.aload_n C (n := 5) (j := 0) d_P_wordIs_4 rfl rfl rfl ?_
  refine V.get C (n := 8) (q0 := 0) (k0 := 1) clOk_4 rfl (by decide) rfl fl_P_9 rfl d_P_wordIs_5 rfl ?_
  refine V.isub_n C (n := 9) d_P_wordIs_8 (by omega) rfl ?_
  refine V.aload_n C (n := 10) (j := 1) d_P_wordIs_9 rfl rfl rfl ?_
  refine V.callK_i C (n := 13) (ws' := (ParW y (x 0) ws we le) ++ (TxtW x cC sg ln lo)) (c_K_length l D cI cC E (i9) (by first | assumption | omega)) cw_P_97 [] [0, 1, 2] [0, 1, 2] (strRecv C (by first | assumption | omega)) rfl (of_decide_eq_true rfl) rfl (of_decide_eq_true rfl) rfl (of_decide_eq_true rfl) rfl (of_decide_eq_true rfl) rfl ⟨rfl, rfl⟩ ⟨by decide, by decide⟩ ⟨by decide, by decide⟩ rfl rfl (of_decide_eq_true rfl) d_P_wordIs_10 rfl ?_
  have b_1 := sln_le (i9)
  refine V.icmpn_eq C (tgt := 18) (n := 16) (by omega) (by omega) d_P_wordIs_13 (by decide) rfl (fun c13_1 => ?_) (fun c13_1 => ?_)
  · refine V.iconst C (v := nI 0) (n := 19) d_P_wordIs_18 (by decide) rfl ?_
    refine V.istore_n C (n := 20) (lv' := [(0, .ref (y 0)), (1, .ref (E i9)), (2, .int (nI 0))]) [1, 2, 0] d_P_wordIs_19 rfl (by decide) rfl rfl ?_
    refine V.ind1 C (fun (j : Nat) => (ParW y (x 0) ws we le) ++ (TxtW x cC sg ln lo)) (fun (j : Nat) => [(0, .ref (y 0)), (1, .ref (E i9)), (2, .int (nI j))]) (fun (j : Nat) => (j ≤ sln i9) ∧ (wEq sg ws i9 j = true)) (fun (j : Nat) => sln i9 - j) (0) ⟨by omega, rfl⟩ rfl rfl ?_
    rintro j ⟨hj, hq⟩ ih20
    try dsimp only
    refine V.iload_n C (n := 21) (j := 2) d_P_wordIs_20 rfl rfl rfl ?_
    refine V.aload_n C (n := 22) (j := 1) d_P_wordIs_21 rfl rfl rfl ?_
    refine V.callK_i C (n := 25) (ws' := (ParW y (x 0) ws we le) ++ (TxtW x cC sg ln lo)) (c_K_length l D cI cC E (i9) (by first | assumption | omega)) cw_P_97 [] [0, 1, 2] [0, 1, 2] (strRecv C (by first | assumption | omega)) rfl (of_decide_eq_true rfl) rfl (of_decide_eq_true rfl) rfl (of_decide_eq_true rfl) rfl (of_decide_eq_true rfl) rfl ⟨rfl, rfl⟩ ⟨by decide, by decide⟩ ⟨by decide, by decide⟩ rfl rfl (of_decide_eq_true rfl) d_P_wordIs_22 rfl ?_
    have b_2 := sln_le (i9)
    refine V.icmpn_ge C (tgt := 57) (n := 28) (by omega) (by omega) d_P_wordIs_25 (by decide) rfl (fun c25_2 => ?_) (fun c25_2 => ?_)
    · refine V.iconst C (v := nI 1) (n := 58) d_P_wordIs_57 (by decide) rfl ?_
      exact V.zret C hr (bI_nar _) d_P_wordIs_58 (bI_1 (wIs_ok (by omega) (by rw [show sln i9 = j by omega]; exact hq))) (rfl)
    · refine V.aload_n C (n := 29) (j := 0) d_P_wordIs_28 rfl rfl rfl ?_
      refine V.get C (n := 32) (q0 := 0) (k0 := 0) clOk_4 rfl (by decide) rfl fl_P_21 rfl d_P_wordIs_29 rfl ?_
      refine V.aload_n C (n := 33) (j := 0) d_P_wordIs_32 rfl rfl rfl ?_
      refine V.get C (n := 36) (q0 := 0) (k0 := 1) clOk_4 rfl (by decide) rfl fl_P_9 rfl d_P_wordIs_33 rfl ?_
      refine V.iload_n C (n := 37) (j := 2) d_P_wordIs_36 rfl rfl rfl ?_
      refine V.iadd_n C (n := 38) d_P_wordIs_37 rfl ?_
      refine V.callV_i C (n := 41) (ws' := (ParW y (x 0) ws we le) ++ (TxtW x cC sg ln lo)) (c_X_signAt_in l D cI cC E (x) (sg) (ln) (lo) (ws + j) (by first | assumption | omega) (by first | assumption | omega)) cw_P_36 [1, 2] [0] [0, 1, 2] (qr := 0) rfl rfl rfl (of_decide_eq_true rfl) rfl (of_decide_eq_true rfl) rfl (of_decide_eq_true rfl) rfl (of_decide_eq_true rfl) rfl ⟨rfl, rfl⟩ ⟨by decide, by decide⟩ ⟨by decide, by decide⟩ rfl rfl (of_decide_eq_true rfl) d_P_wordIs_38 rfl ?_
      have b_3 := hsg ((ws + j))
      refine V.aload_n C (n := 42) (j := 1) d_P_wordIs_41 rfl rfl rfl ?_
      refine V.iload_n C (n := 43) (j := 2) d_P_wordIs_42 rfl rfl rfl ?_
      refine V.callK_i C (n := 46) (ws' := (ParW y (x 0) ws we le) ++ (TxtW x cC sg ln lo)) (c_K_charAt l D cI cC E (i9) (j) (by first | assumption | omega) (by first | assumption | omega)) cw_P_100 [] [0, 1, 2] [0, 1, 2] (strRecv C (by first | assumption | omega)) rfl (of_decide_eq_true rfl) rfl (of_decide_eq_true rfl) rfl (of_decide_eq_true rfl) rfl (of_decide_eq_true rfl) rfl ⟨rfl, rfl⟩ ⟨by decide, by decide⟩ ⟨by decide, by decide⟩ rfl rfl (of_decide_eq_true rfl) d_P_wordIs_43 rfl ?_
      have b_4 := sch_le (i9) (j)
      refine V.icmpn_eq C (tgt := 51) (n := 49) (by omega) (by omega) d_P_wordIs_46 (by decide) rfl (fun c46_3 => ?_) (fun c46_3 => ?_)
      · refine V.iinc C (n := 54) (j := 2) (v := nI (j + 1)) (lv' := [(0, .ref (y 0)), (1, .ref (E i9)), (2, .int (nI (j + 1)))]) [1, 2, 0] d_P_wordIs_51 rfl (nI_inc (j) 1) (by decide) rfl rfl ?_
        refine V.goto C (n := 20) d_P_wordIs_54 (by decide) ?_
        exact ih20 (j + 1) ⟨by omega, wEq_t hq (by omega)⟩ (by omega)
      · refine V.iconst C (v := nI 0) (n := 50) d_P_wordIs_49 (by decide) rfl ?_
        exact V.zret C hr (bI_nar _) d_P_wordIs_50 (bI_0 (wIs_bad (j := j) (by omega) (by omega))) (rfl)
  · refine V.iconst C (v := nI 0) (n := 17) d_P_wordIs_16 (by decide) rfl ?_
    exact V.zret C hr (bI_nar _) d_P_wordIs_17 (bI_0 (wIs_len (by omega))) (rfl)
set_option maxHeartbeats 4000000 in
set_option maxRecDepth 100000 in
theorem c_P_mayRead (l : Launch) (D : va_G) (cI cC : ClassId) (E : Nat → Nat) (y b : Nat → Nat) (tx ws we le : Nat) (sd pd rk gp of to : Nat → Nat) (n : Nat) (K9 U9 : Int) (hT : TabOK sd pd rk gp of to n) (hK9 : -2147483648 ≤ K9 ∧ K9 < 2147483648) (hU9 : -2147483648 ≤ U9 ∧ U9 < 2147483648) : CI l D (TY cI cC E) m_P_mayRead (rmD 1) [.ref (y 0), .ref (b 0), .int (iI (K9)), .int (iI (U9))] ((ParW y tx ws we le) ++ (TabW b cI sd pd rk gp of to n)) (bI (1 ≤ K9 ∧ K9 ≤ 20 ∧ K9 ≠ ((sd n : Nat) : Int) ∧ 1 ≤ U9 ∧ U9 ≤ 10000)) ((ParW y tx ws we le) ++ (TabW b cI sd pd rk gp of to n)) := by
  obtain ⟨hn, hsd, hpd, hrk, hgp, hof, hto⟩ := id hT
  refine CI.of (by decide +kernel) (of_decide_eq_true rfl) ?_
  intro p e s m args below meth c C hr
  refine V.iload_n C (n := 1) (j := 2) d_P_mayRead_0 rfl rfl rfl ?_
  refine V.callSN_i C (n := 4) (ws' := (ParW y tx ws we le) ++ (TabW b cI sd pd rk gp of to n)) (c_F_isNode l D cI cC E (K9) (by first | assumption | omega)) cw_P_64 [] [0, 1, 2, 3, 4, 5, 6, 7] [0, 1, 2, 3, 4, 5, 6, 7] rfl (of_decide_eq_true rfl) rfl (of_decide_eq_true rfl) rfl (of_decide_eq_true rfl) rfl (of_decide_eq_true rfl) rfl ⟨rfl, rfl⟩ ⟨by decide, by decide⟩ ⟨by decide, by decide⟩ rfl rfl (of_decide_eq_true rfl) d_P_mayRead_1 rfl ?_
  refine V.ifb_eq C (tgt := 35) (n := 7) d_P_mayRead_4 (by decide) rfl (fun c4_1 => ?_) (fun c4_1 => ?_)
  · refine V.iconst C (v := nI 0) (n := 36) d_P_mayRead_35 (by decide) rfl ?_
    exact V.zret C hr (bI_nar _) d_P_mayRead_36 (by first | exact bI_1 (by omega) | exact bI_0 (by omega)) (rfl)
  · refine V.iload_n C (n := 8) (j := 2) d_P_mayRead_7 rfl rfl rfl ?_
    refine V.aload_n C (n := 9) (j := 1) d_P_mayRead_8 rfl rfl rfl ?_
    refine V.aload_n C (n := 10) (j := 1) d_P_mayRead_9 rfl rfl rfl ?_
    refine V.callV_i C (n := 13) (ws' := (ParW y tx ws we le) ++ (TabW b cI sd pd rk gp of to n)) (c_T_size l D cI cC E (b) (sd) (pd) (rk) (gp) (of) (to) (n) (by first | assumption | omega)) cw_P_87 [1, 2, 3, 4, 5, 6, 7] [0] [0, 1, 2, 3, 4, 5, 6, 7] (qr := 0) rfl rfl rfl (of_decide_eq_true rfl) rfl (of_decide_eq_true rfl) rfl (of_decide_eq_true rfl) rfl (of_decide_eq_true rfl) rfl ⟨rfl, rfl⟩ ⟨by decide, by decide⟩ ⟨by decide, by decide⟩ rfl rfl (of_decide_eq_true rfl) d_P_mayRead_10 rfl ?_
    refine V.callV_i C (n := 16) (ws' := (ParW y tx ws we le) ++ (TabW b cI sd pd rk gp of to n)) (c_T_senderOf l D cI cC E (b) (sd) (pd) (rk) (gp) (of) (to) (n) (n) (by first | assumption | omega) (by first | assumption | omega)) cw_P_94 [1, 2, 3, 4, 5, 6, 7] [0] [0, 1, 2, 3, 4, 5, 6, 7] (qr := 0) rfl rfl rfl (of_decide_eq_true rfl) rfl (of_decide_eq_true rfl) rfl (of_decide_eq_true rfl) rfl (of_decide_eq_true rfl) rfl ⟨rfl, rfl⟩ ⟨by decide, by decide⟩ ⟨by decide, by decide⟩ rfl rfl (of_decide_eq_true rfl) d_P_mayRead_13 rfl ?_
    have b_1 := hsd (n)
    refine V.icmp_eq C (tgt := 35) (n := 19) (iI_toInt (by omega) (by omega)) (nT (by omega)) d_P_mayRead_16 (by decide) rfl (fun c16_2 => ?_) (fun c16_2 => ?_)
    · refine V.iconst C (v := nI 0) (n := 36) d_P_mayRead_35 (by decide) rfl ?_
      exact V.zret C hr (bI_nar _) d_P_mayRead_36 (by first | exact bI_1 (by omega) | exact bI_0 (by omega)) (rfl)
    · refine V.iload_n C (n := 20) (j := 3) d_P_mayRead_19 rfl rfl rfl ?_
      refine V.iconst C (v := nI 1) (n := 21) d_P_mayRead_20 (by decide) rfl ?_
      refine V.icmp_lt C (tgt := 35) (n := 24) (iI_toInt (by omega) (by omega)) (nT (by omega)) d_P_mayRead_21 (by decide) rfl (fun c21_3 => ?_) (fun c21_3 => ?_)
      · refine V.iconst C (v := nI 0) (n := 36) d_P_mayRead_35 (by decide) rfl ?_
        exact V.zret C hr (bI_nar _) d_P_mayRead_36 (by first | exact bI_1 (by omega) | exact bI_0 (by omega)) (rfl)
      · refine V.iload_n C (n := 25) (j := 3) d_P_mayRead_24 rfl rfl rfl ?_
        refine V.sipush C (v := nI 10000) (n := 28) d_P_mayRead_25 (by decide) rfl ?_
        refine V.icmp_gt C (tgt := 35) (n := 31) (iI_toInt (by omega) (by omega)) (nT (by omega)) d_P_mayRead_28 (by decide) rfl (fun c28_4 => ?_) (fun c28_4 => ?_)
        · refine V.iconst C (v := nI 0) (n := 36) d_P_mayRead_35 (by decide) rfl ?_
          exact V.zret C hr (bI_nar _) d_P_mayRead_36 (by first | exact bI_1 (by omega) | exact bI_0 (by omega)) (rfl)
        · refine V.iconst C (v := nI 1) (n := 32) d_P_mayRead_31 (by decide) rfl ?_
          refine V.goto C (n := 36) d_P_mayRead_32 (by decide) ?_
          exact V.zret C hr (bI_nar _) d_P_mayRead_36 (by first | exact bI_1 (by omega) | exact bI_0 (by omega)) (rfl)
set_option maxHeartbeats 4000000 in
set_option maxRecDepth 100000 in
theorem c_P_takeFrame_bad (l : Launch) (D : va_G) (cI cC : ClassId) (E : Nat → Nat) (y x b : Nat → Nat) (sg : Nat → Nat) (ln : Nat) (lo : Bool) (ws we le : Nat) (sd pd rk gp of to : Nat → Nat) (n : Nat) (hX0 : TxtOK sg ln) (hle : le ≤ ln) (hwe : we ≤ 2000) (hT : TabOK sd pd rk gp of to n) (hbad : ¬ okF sg le we n) : CI l D (TY cI cC E) m_P_takeFrame (rmD 3) [.ref (y 0), .ref (b 0)] ((ParW y (x 0) ws we le) ++ (TxtW x cC sg ln lo) ++ (TabW b cI sd pd rk gp of to n)) (bI (False)) ((ParW y (x 0) (wS sg le (wE sg le (wE sg le (wE sg le we)))) ((wE sg le (wE sg le (wE sg le (wE sg le we))))) le) ++ (TxtW x cC sg ln lo) ++ (TabW b cI sd pd rk gp of to n)) := by
  obtain ⟨hln, hsg⟩ := id hX0
  obtain ⟨hn, hsd, hpd, hrk, hgp, hof, hto⟩ := id hT
  have hl2 : le ≤ 2000 := by omega
  have q1 := nmV_rng sg le we
  have q2 := nmV_rng sg le (wE sg le we)
  have q3 := nmV_rng sg le (wE sg le (wE sg le we))
  have q4 := nmV_rng sg le (wE sg le (wE sg le (wE sg le we)))
  refine CI.of (by decide +kernel) (of_decide_eq_true rfl) ?_
  intro p e s m args below meth c C hr
  refine V.aload_n C (n := 1) (j := 0) d_P_takeFrame_0 rfl rfl rfl ?_
  refine V.callV_i C (n := 4) (ws' := (ParW y (x 0) (wS sg le we) (wE sg le we) le) ++ (TxtW x cC sg ln lo) ++ (TabW b cI sd pd rk gp of to n)) (c_P_nextNumber l D cI cC E (y) (x) (sg) (ln) (lo) (ws) (we) (le) (by first | assumption | omega) (by first | assumption | omega) hwe) cw_P_61 [0, 1, 2] [3, 4, 5, 6, 7, 8, 9] [7, 8, 9, 0, 1, 2, 3, 4, 5, 6] (qr := 0) rfl rfl rfl (of_decide_eq_true rfl) rfl (of_decide_eq_true rfl) rfl (of_decide_eq_true rfl) rfl (of_decide_eq_true rfl) rfl ⟨rfl, rfl⟩ ⟨by decide, by decide⟩ ⟨by decide, by decide⟩ rfl rfl (of_decide_eq_true rfl) d_P_takeFrame_1 rfl ?_
  refine V.istore_n C (n := 5) (lv' := [(0, .ref (y 0)), (1, .ref (b 0)), (2, .int (iI (nmV sg le we)))]) [1, 2, 0] d_P_takeFrame_4 rfl (by decide) rfl rfl ?_
  refine V.aload_n C (n := 6) (j := 0) d_P_takeFrame_5 rfl rfl rfl ?_
  refine V.callV_i C (n := 9) (ws' := (ParW y (x 0) (wS sg le (wE sg le we)) (wE sg le (wE sg le we)) le) ++ (TxtW x cC sg ln lo) ++ (TabW b cI sd pd rk gp of to n)) (c_P_nextNumber l D cI cC E (y) (x) (sg) (ln) (lo) (wS sg le we) (wE sg le we) (le) (by first | assumption | omega) (by first | assumption | omega) (wE_b (sg := sg) hl2 hwe)) cw_P_61 [0, 1, 2] [3, 4, 5, 6, 7, 8, 9] [7, 8, 9, 0, 1, 2, 3, 4, 5, 6] (qr := 0) rfl rfl rfl (of_decide_eq_true rfl) rfl (of_decide_eq_true rfl) rfl (of_decide_eq_true rfl) rfl (of_decide_eq_true rfl) rfl ⟨rfl, rfl⟩ ⟨by decide, by decide⟩ ⟨by decide, by decide⟩ rfl rfl (of_decide_eq_true rfl) d_P_takeFrame_6 rfl ?_
  refine V.istore_n C (n := 10) (lv' := [(0, .ref (y 0)), (1, .ref (b 0)), (2, .int (iI (nmV sg le we))), (3, .int (iI (nmV sg le (wE sg le we))))]) [1, 2, 3, 0] d_P_takeFrame_9 rfl (by decide) rfl rfl ?_
  refine V.aload_n C (n := 11) (j := 0) d_P_takeFrame_10 rfl rfl rfl ?_
  refine V.callV_i C (n := 14) (ws' := (ParW y (x 0) (wS sg le (wE sg le (wE sg le we))) (wE sg le (wE sg le (wE sg le we))) le) ++ (TxtW x cC sg ln lo) ++ (TabW b cI sd pd rk gp of to n)) (c_P_nextNumber l D cI cC E (y) (x) (sg) (ln) (lo) (wS sg le (wE sg le we)) (wE sg le (wE sg le we)) (le) (by first | assumption | omega) (by first | assumption | omega) (wE_b (sg := sg) hl2 (wE_b (sg := sg) hl2 hwe))) cw_P_61 [0, 1, 2] [3, 4, 5, 6, 7, 8, 9] [7, 8, 9, 0, 1, 2, 3, 4, 5, 6] (qr := 0) rfl rfl rfl (of_decide_eq_true rfl) rfl (of_decide_eq_true rfl) rfl (of_decide_eq_true rfl) rfl (of_decide_eq_true rfl) rfl ⟨rfl, rfl⟩ ⟨by decide, by decide⟩ ⟨by decide, by decide⟩ rfl rfl (of_decide_eq_true rfl) d_P_takeFrame_11 rfl ?_
  refine V.istore C (n := 16) (lv' := [(0, .ref (y 0)), (1, .ref (b 0)), (2, .int (iI (nmV sg le we))), (3, .int (iI (nmV sg le (wE sg le we)))), (4, .int (iI (nmV sg le (wE sg le (wE sg le we)))))]) [1, 2, 3, 4, 0] d_P_takeFrame_14 (by decide) rfl rfl ?_
  refine V.aload_n C (n := 17) (j := 0) d_P_takeFrame_16 rfl rfl rfl ?_
  refine V.callV_i C (n := 20) (ws' := (ParW y (x 0) (wS sg le (wE sg le (wE sg le (wE sg le we)))) (wE sg le (wE sg le (wE sg le (wE sg le we)))) le) ++ (TxtW x cC sg ln lo) ++ (TabW b cI sd pd rk gp of to n)) (c_P_nextNumber l D cI cC E (y) (x) (sg) (ln) (lo) (wS sg le (wE sg le (wE sg le we))) (wE sg le (wE sg le (wE sg le we))) (le) (by first | assumption | omega) (by first | assumption | omega) (wE_b (sg := sg) hl2 (wE_b (sg := sg) hl2 (wE_b (sg := sg) hl2 hwe)))) cw_P_61 [0, 1, 2] [3, 4, 5, 6, 7, 8, 9] [7, 8, 9, 0, 1, 2, 3, 4, 5, 6] (qr := 0) rfl rfl rfl (of_decide_eq_true rfl) rfl (of_decide_eq_true rfl) rfl (of_decide_eq_true rfl) rfl (of_decide_eq_true rfl) rfl ⟨rfl, rfl⟩ ⟨by decide, by decide⟩ ⟨by decide, by decide⟩ rfl rfl (of_decide_eq_true rfl) d_P_takeFrame_17 rfl ?_
  refine V.istore C (n := 22) (lv' := [(0, .ref (y 0)), (1, .ref (b 0)), (2, .int (iI (nmV sg le we))), (3, .int (iI (nmV sg le (wE sg le we)))), (4, .int (iI (nmV sg le (wE sg le (wE sg le we))))), (5, .int (iI (nmV sg le (wE sg le (wE sg le (wE sg le we))))))]) [1, 2, 3, 4, 5, 0] d_P_takeFrame_20 (by decide) rfl rfl ?_
  refine V.iload_n C (n := 23) (j := 2) d_P_takeFrame_22 rfl rfl rfl ?_
  refine V.callSN_i C (n := 26) (ws' := (ParW y (x 0) (wS sg le (wE sg le (wE sg le (wE sg le we)))) (wE sg le (wE sg le (wE sg le (wE sg le we)))) le) ++ (TxtW x cC sg ln lo) ++ (TabW b cI sd pd rk gp of to n)) (c_F_isNode l D cI cC E (nmV sg le we) (by first | assumption | omega)) cw_P_64 [] [0, 1, 2, 3, 4, 5, 6, 7, 8, 9] [0, 1, 2, 3, 4, 5, 6, 7, 8, 9] rfl (of_decide_eq_true rfl) rfl (of_decide_eq_true rfl) rfl (of_decide_eq_true rfl) rfl (of_decide_eq_true rfl) rfl ⟨rfl, rfl⟩ ⟨by decide, by decide⟩ ⟨by decide, by decide⟩ rfl rfl (of_decide_eq_true rfl) d_P_takeFrame_23 rfl ?_
  refine V.ifb_eq C (tgt := 44) (n := 29) d_P_takeFrame_26 (by decide) rfl (fun c26_1 => ?_) (fun c26_1 => ?_)
  · refine V.iconst C (v := nI 0) (n := 45) d_P_takeFrame_44 (by decide) rfl ?_
    exact V.zret C hr (bI_nar _) d_P_takeFrame_45 (bI_0 (fun h => h)) (rfl)
  · refine V.iload_n C (n := 30) (j := 3) d_P_takeFrame_29 rfl rfl rfl ?_
    refine V.callSN_i C (n := 33) (ws' := (ParW y (x 0) (wS sg le (wE sg le (wE sg le (wE sg le we)))) (wE sg le (wE sg le (wE sg le (wE sg le we)))) le) ++ (TxtW x cC sg ln lo) ++ (TabW b cI sd pd rk gp of to n)) (c_F_isPeriod l D cI cC E (nmV sg le (wE sg le we)) (by first | assumption | omega)) cw_P_68 [] [0, 1, 2, 3, 4, 5, 6, 7, 8, 9] [0, 1, 2, 3, 4, 5, 6, 7, 8, 9] rfl (of_decide_eq_true rfl) rfl (of_decide_eq_true rfl) rfl (of_decide_eq_true rfl) rfl (of_decide_eq_true rfl) rfl ⟨rfl, rfl⟩ ⟨by decide, by decide⟩ ⟨by decide, by decide⟩ rfl rfl (of_decide_eq_true rfl) d_P_takeFrame_30 rfl ?_
    refine V.ifb_eq C (tgt := 44) (n := 36) d_P_takeFrame_33 (by decide) rfl (fun c33_2 => ?_) (fun c33_2 => ?_)
    · refine V.iconst C (v := nI 0) (n := 45) d_P_takeFrame_44 (by decide) rfl ?_
      exact V.zret C hr (bI_nar _) d_P_takeFrame_45 (bI_0 (fun h => h)) (rfl)
    · refine V.iload C (n := 38) (j := 4) d_P_takeFrame_36 rfl rfl ?_
      refine V.callSN_i C (n := 41) (ws' := (ParW y (x 0) (wS sg le (wE sg le (wE sg le (wE sg le we)))) (wE sg le (wE sg le (wE sg le (wE sg le we)))) le) ++ (TxtW x cC sg ln lo) ++ (TabW b cI sd pd rk gp of to n)) (c_F_isRank l D cI cC E (nmV sg le (wE sg le (wE sg le we))) (by first | assumption | omega)) cw_P_71 [] [0, 1, 2, 3, 4, 5, 6, 7, 8, 9] [0, 1, 2, 3, 4, 5, 6, 7, 8, 9] rfl (of_decide_eq_true rfl) rfl (of_decide_eq_true rfl) rfl (of_decide_eq_true rfl) rfl (of_decide_eq_true rfl) rfl ⟨rfl, rfl⟩ ⟨by decide, by decide⟩ ⟨by decide, by decide⟩ rfl rfl (of_decide_eq_true rfl) d_P_takeFrame_38 rfl ?_
      refine V.ifb_ne C (tgt := 46) (n := 44) d_P_takeFrame_41 (by decide) rfl (fun c41_3 => ?_) (fun c41_3 => ?_)
      · refine V.iload C (n := 48) (j := 5) d_P_takeFrame_46 rfl rfl ?_
        refine V.if_lt C (tgt := 64) (n := 51) (iI_toInt (by omega) (by omega)) d_P_takeFrame_48 (by decide) rfl (fun c48_4 => ?_) (fun c48_4 => ?_)
        · refine V.iconst C (v := nI 0) (n := 65) d_P_takeFrame_64 (by decide) rfl ?_
          exact V.zret C hr (bI_nar _) d_P_takeFrame_65 (bI_0 (fun h => h)) (rfl)
        · refine V.iload C (n := 53) (j := 5) d_P_takeFrame_51 rfl rfl ?_
          refine V.iload_n C (n := 54) (j := 3) d_P_takeFrame_53 rfl rfl rfl ?_
          refine V.icmp_gt C (tgt := 64) (n := 57) (iI_toInt (by omega) (by omega)) (iI_toInt (by omega) (by omega)) d_P_takeFrame_54 (by decide) rfl (fun c54_5 => ?_) (fun c54_5 => ?_)
          · refine V.iconst C (v := nI 0) (n := 65) d_P_takeFrame_64 (by decide) rfl ?_
            exact V.zret C hr (bI_nar _) d_P_takeFrame_65 (bI_0 (fun h => h)) (rfl)
          · refine V.aload_n C (n := 58) (j := 1) d_P_takeFrame_57 rfl rfl rfl ?_
            refine V.callV_i C (n := 61) (ws' := (ParW y (x 0) (wS sg le (wE sg le (wE sg le (wE sg le we)))) (wE sg le (wE sg le (wE sg le (wE sg le we)))) le) ++ (TxtW x cC sg ln lo) ++ (TabW b cI sd pd rk gp of to n)) (c_T_isFull l D cI cC E (b) (sd) (pd) (rk) (gp) (of) (to) (n) (by first | assumption | omega)) cw_P_74 [3, 4, 5, 6, 7, 8, 9] [0, 1, 2] [0, 1, 2, 3, 4, 5, 6, 7, 8, 9] (qr := 0) rfl rfl rfl (of_decide_eq_true rfl) rfl (of_decide_eq_true rfl) rfl (of_decide_eq_true rfl) rfl (of_decide_eq_true rfl) rfl ⟨rfl, rfl⟩ ⟨by decide, by decide⟩ ⟨by decide, by decide⟩ rfl rfl (of_decide_eq_true rfl) d_P_takeFrame_58 rfl ?_
            refine V.ifb_eq C (tgt := 66) (n := 64) d_P_takeFrame_61 (by decide) rfl (fun c61_6 => ?_) (fun c61_6 => ?_)
            · exact absurd ⟨by omega, by omega, by omega, by omega, by omega, by omega, by omega, by omega, by omega⟩ hbad
            · refine V.iconst C (v := nI 0) (n := 65) d_P_takeFrame_64 (by decide) rfl ?_
              exact V.zret C hr (bI_nar _) d_P_takeFrame_65 (bI_0 (fun h => h)) (rfl)
      · refine V.iconst C (v := nI 0) (n := 45) d_P_takeFrame_44 (by decide) rfl ?_
        exact V.zret C hr (bI_nar _) d_P_takeFrame_45 (bI_0 (fun h => h)) (rfl)
set_option maxHeartbeats 4000000 in
set_option maxRecDepth 100000 in
theorem c_P_takeFrame_ok (l : Launch) (D : va_G) (cI cC : ClassId) (E : Nat → Nat) (y x b : Nat → Nat) (sg : Nat → Nat) (ln : Nat) (lo : Bool) (ws we le : Nat) (sd pd rk gp of to : Nat → Nat) (n : Nat) (s9 p9 r9 g9 : Nat) (hX0 : TxtOK sg ln) (hle : le ≤ ln) (hwe : we ≤ 2000) (hT : TabOK sd pd rk gp of to n) (e1 : nmV sg le we = ((s9 : Nat) : Int)) (e2 : nmV sg le (wE sg le we) = ((p9 : Nat) : Int)) (e3 : nmV sg le (wE sg le (wE sg le we)) = ((r9 : Nat) : Int)) (e4 : nmV sg le (wE sg le (wE sg le (wE sg le we))) = ((g9 : Nat) : Int)) (hs : 1 ≤ s9 ∧ s9 ≤ 20) (hp : 1 ≤ p9 ∧ p9 ≤ 60) (hq9 : r9 ≤ 99) (hg : g9 ≤ p9) (h40 : n < 40) : CI l D (TY cI cC E) m_P_takeFrame (rmD 3) [.ref (y 0), .ref (b 0)] ((ParW y (x 0) ws we le) ++ (TxtW x cC sg ln lo) ++ (TabW b cI sd pd rk gp of to n)) (bI (True)) ((ParW y (x 0) (wS sg le (wE sg le (wE sg le (wE sg le we)))) ((wE sg le (wE sg le (wE sg le (wE sg le we))))) le) ++ (TxtW x cC sg ln lo) ++ (TabW b cI ((apS (sd, pd, rk, gp, of, to, n) s9 p9 r9 g9).1) ((apS (sd, pd, rk, gp, of, to, n) s9 p9 r9 g9).2.1) ((apS (sd, pd, rk, gp, of, to, n) s9 p9 r9 g9).2.2.1) ((apS (sd, pd, rk, gp, of, to, n) s9 p9 r9 g9).2.2.2.1) ((apS (sd, pd, rk, gp, of, to, n) s9 p9 r9 g9).2.2.2.2.1) ((apS (sd, pd, rk, gp, of, to, n) s9 p9 r9 g9).2.2.2.2.2.1) ((apS (sd, pd, rk, gp, of, to, n) s9 p9 r9 g9).2.2.2.2.2.2))) := by
  obtain ⟨hln, hsg⟩ := id hX0
  obtain ⟨hn, hsd, hpd, hrk, hgp, hof, hto⟩ := id hT
  have hl2 : le ≤ 2000 := by omega
  have q1 := nmV_rng sg le we
  have q2 := nmV_rng sg le (wE sg le we)
  have q3 := nmV_rng sg le (wE sg le (wE sg le we))
  have q4 := nmV_rng sg le (wE sg le (wE sg le (wE sg le we)))
  refine CI.of (by decide +kernel) (of_decide_eq_true rfl) ?_
  intro p e s m args below meth c C hr
  refine V.aload_n C (n := 1) (j := 0) d_P_takeFrame_0 rfl rfl rfl ?_
  refine V.callV_i C (n := 4) (ws' := (ParW y (x 0) (wS sg le we) (wE sg le we) le) ++ (TxtW x cC sg ln lo) ++ (TabW b cI sd pd rk gp of to n)) (c_P_nextNumber l D cI cC E (y) (x) (sg) (ln) (lo) (ws) (we) (le) (by first | assumption | omega) (by first | assumption | omega) hwe) cw_P_61 [0, 1, 2] [3, 4, 5, 6, 7, 8, 9] [7, 8, 9, 0, 1, 2, 3, 4, 5, 6] (qr := 0) rfl rfl rfl (of_decide_eq_true rfl) rfl (of_decide_eq_true rfl) rfl (of_decide_eq_true rfl) rfl (of_decide_eq_true rfl) rfl ⟨rfl, rfl⟩ ⟨by decide, by decide⟩ ⟨by decide, by decide⟩ rfl rfl (of_decide_eq_true rfl) d_P_takeFrame_1 rfl ?_
  refine V.cv C (y := nI s9) (by rw [e1, iI_nat]) ?_
  refine V.istore_n C (n := 5) (lv' := [(0, .ref (y 0)), (1, .ref (b 0)), (2, .int (nI s9))]) [1, 2, 0] d_P_takeFrame_4 rfl (by decide) rfl rfl ?_
  refine V.aload_n C (n := 6) (j := 0) d_P_takeFrame_5 rfl rfl rfl ?_
  refine V.callV_i C (n := 9) (ws' := (ParW y (x 0) (wS sg le (wE sg le we)) (wE sg le (wE sg le we)) le) ++ (TxtW x cC sg ln lo) ++ (TabW b cI sd pd rk gp of to n)) (c_P_nextNumber l D cI cC E (y) (x) (sg) (ln) (lo) (wS sg le we) (wE sg le we) (le) (by first | assumption | omega) (by first | assumption | omega) (wE_b (sg := sg) hl2 hwe)) cw_P_61 [0, 1, 2] [3, 4, 5, 6, 7, 8, 9] [7, 8, 9, 0, 1, 2, 3, 4, 5, 6] (qr := 0) rfl rfl rfl (of_decide_eq_true rfl) rfl (of_decide_eq_true rfl) rfl (of_decide_eq_true rfl) rfl (of_decide_eq_true rfl) rfl ⟨rfl, rfl⟩ ⟨by decide, by decide⟩ ⟨by decide, by decide⟩ rfl rfl (of_decide_eq_true rfl) d_P_takeFrame_6 rfl ?_
  refine V.cv C (y := nI p9) (by rw [e2, iI_nat]) ?_
  refine V.istore_n C (n := 10) (lv' := [(0, .ref (y 0)), (1, .ref (b 0)), (2, .int (nI s9)), (3, .int (nI p9))]) [1, 2, 3, 0] d_P_takeFrame_9 rfl (by decide) rfl rfl ?_
  refine V.aload_n C (n := 11) (j := 0) d_P_takeFrame_10 rfl rfl rfl ?_
  refine V.callV_i C (n := 14) (ws' := (ParW y (x 0) (wS sg le (wE sg le (wE sg le we))) (wE sg le (wE sg le (wE sg le we))) le) ++ (TxtW x cC sg ln lo) ++ (TabW b cI sd pd rk gp of to n)) (c_P_nextNumber l D cI cC E (y) (x) (sg) (ln) (lo) (wS sg le (wE sg le we)) (wE sg le (wE sg le we)) (le) (by first | assumption | omega) (by first | assumption | omega) (wE_b (sg := sg) hl2 (wE_b (sg := sg) hl2 hwe))) cw_P_61 [0, 1, 2] [3, 4, 5, 6, 7, 8, 9] [7, 8, 9, 0, 1, 2, 3, 4, 5, 6] (qr := 0) rfl rfl rfl (of_decide_eq_true rfl) rfl (of_decide_eq_true rfl) rfl (of_decide_eq_true rfl) rfl (of_decide_eq_true rfl) rfl ⟨rfl, rfl⟩ ⟨by decide, by decide⟩ ⟨by decide, by decide⟩ rfl rfl (of_decide_eq_true rfl) d_P_takeFrame_11 rfl ?_
  refine V.cv C (y := nI r9) (by rw [e3, iI_nat]) ?_
  refine V.istore C (n := 16) (lv' := [(0, .ref (y 0)), (1, .ref (b 0)), (2, .int (nI s9)), (3, .int (nI p9)), (4, .int (nI r9))]) [1, 2, 3, 4, 0] d_P_takeFrame_14 (by decide) rfl rfl ?_
  refine V.aload_n C (n := 17) (j := 0) d_P_takeFrame_16 rfl rfl rfl ?_
  refine V.callV_i C (n := 20) (ws' := (ParW y (x 0) (wS sg le (wE sg le (wE sg le (wE sg le we)))) (wE sg le (wE sg le (wE sg le (wE sg le we)))) le) ++ (TxtW x cC sg ln lo) ++ (TabW b cI sd pd rk gp of to n)) (c_P_nextNumber l D cI cC E (y) (x) (sg) (ln) (lo) (wS sg le (wE sg le (wE sg le we))) (wE sg le (wE sg le (wE sg le we))) (le) (by first | assumption | omega) (by first | assumption | omega) (wE_b (sg := sg) hl2 (wE_b (sg := sg) hl2 (wE_b (sg := sg) hl2 hwe)))) cw_P_61 [0, 1, 2] [3, 4, 5, 6, 7, 8, 9] [7, 8, 9, 0, 1, 2, 3, 4, 5, 6] (qr := 0) rfl rfl rfl (of_decide_eq_true rfl) rfl (of_decide_eq_true rfl) rfl (of_decide_eq_true rfl) rfl (of_decide_eq_true rfl) rfl ⟨rfl, rfl⟩ ⟨by decide, by decide⟩ ⟨by decide, by decide⟩ rfl rfl (of_decide_eq_true rfl) d_P_takeFrame_17 rfl ?_
  refine V.cv C (y := nI g9) (by rw [e4, iI_nat]) ?_
  refine V.istore C (n := 22) (lv' := [(0, .ref (y 0)), (1, .ref (b 0)), (2, .int (nI s9)), (3, .int (nI p9)), (4, .int (nI r9)), (5, .int (nI g9))]) [1, 2, 3, 4, 5, 0] d_P_takeFrame_20 (by decide) rfl rfl ?_
  refine V.iload_n C (n := 23) (j := 2) d_P_takeFrame_22 rfl rfl rfl ?_
  refine V.callSN_i C (n := 26) (ws' := (ParW y (x 0) (wS sg le (wE sg le (wE sg le (wE sg le we)))) (wE sg le (wE sg le (wE sg le (wE sg le we)))) le) ++ (TxtW x cC sg ln lo) ++ (TabW b cI sd pd rk gp of to n)) (c_F_isNode l D cI cC E (((s9 : Nat) : Int)) (by first | assumption | omega)) cw_P_64 [] [0, 1, 2, 3, 4, 5, 6, 7, 8, 9] [0, 1, 2, 3, 4, 5, 6, 7, 8, 9] rfl (of_decide_eq_true rfl) rfl (of_decide_eq_true rfl) rfl (of_decide_eq_true rfl) rfl (of_decide_eq_true rfl) rfl ⟨rfl, rfl⟩ ⟨by decide, by decide⟩ ⟨by decide, by decide⟩ rfl (by first | rfl | (simp only [nI_iI]; done) | (simp only [nI_iI]; rfl)) (of_decide_eq_true rfl) d_P_takeFrame_23 rfl ?_
  refine V.ifb_eq C (tgt := 44) (n := 29) d_P_takeFrame_26 (by decide) rfl (fun c26_1 => ?_) (fun c26_1 => ?_)
  · exfalso; omega
  · refine V.iload_n C (n := 30) (j := 3) d_P_takeFrame_29 rfl rfl rfl ?_
    refine V.callSN_i C (n := 33) (ws' := (ParW y (x 0) (wS sg le (wE sg le (wE sg le (wE sg le we)))) (wE sg le (wE sg le (wE sg le (wE sg le we)))) le) ++ (TxtW x cC sg ln lo) ++ (TabW b cI sd pd rk gp of to n)) (c_F_isPeriod l D cI cC E (((p9 : Nat) : Int)) (by first | assumption | omega)) cw_P_68 [] [0, 1, 2, 3, 4, 5, 6, 7, 8, 9] [0, 1, 2, 3, 4, 5, 6, 7, 8, 9] rfl (of_decide_eq_true rfl) rfl (of_decide_eq_true rfl) rfl (of_decide_eq_true rfl) rfl (of_decide_eq_true rfl) rfl ⟨rfl, rfl⟩ ⟨by decide, by decide⟩ ⟨by decide, by decide⟩ rfl (by first | rfl | (simp only [nI_iI]; done) | (simp only [nI_iI]; rfl)) (of_decide_eq_true rfl) d_P_takeFrame_30 rfl ?_
    refine V.ifb_eq C (tgt := 44) (n := 36) d_P_takeFrame_33 (by decide) rfl (fun c33_2 => ?_) (fun c33_2 => ?_)
    · exfalso; omega
    · refine V.iload C (n := 38) (j := 4) d_P_takeFrame_36 rfl rfl ?_
      refine V.callSN_i C (n := 41) (ws' := (ParW y (x 0) (wS sg le (wE sg le (wE sg le (wE sg le we)))) (wE sg le (wE sg le (wE sg le (wE sg le we)))) le) ++ (TxtW x cC sg ln lo) ++ (TabW b cI sd pd rk gp of to n)) (c_F_isRank l D cI cC E (((r9 : Nat) : Int)) (by first | assumption | omega)) cw_P_71 [] [0, 1, 2, 3, 4, 5, 6, 7, 8, 9] [0, 1, 2, 3, 4, 5, 6, 7, 8, 9] rfl (of_decide_eq_true rfl) rfl (of_decide_eq_true rfl) rfl (of_decide_eq_true rfl) rfl (of_decide_eq_true rfl) rfl ⟨rfl, rfl⟩ ⟨by decide, by decide⟩ ⟨by decide, by decide⟩ rfl (by first | rfl | (simp only [nI_iI]; done) | (simp only [nI_iI]; rfl)) (of_decide_eq_true rfl) d_P_takeFrame_38 rfl ?_
      refine V.ifb_ne C (tgt := 46) (n := 44) d_P_takeFrame_41 (by decide) rfl (fun c41_3 => ?_) (fun c41_3 => ?_)
      · refine V.iload C (n := 48) (j := 5) d_P_takeFrame_46 rfl rfl ?_
        refine V.ifn_lt C (tgt := 64) (n := 51) (by omega) d_P_takeFrame_48 (by decide) rfl (fun c48_4 => ?_) (fun c48_4 => ?_)
        · exfalso; omega
        · refine V.iload C (n := 53) (j := 5) d_P_takeFrame_51 rfl rfl ?_
          refine V.iload_n C (n := 54) (j := 3) d_P_takeFrame_53 rfl rfl rfl ?_
          refine V.icmpn_gt C (tgt := 64) (n := 57) (by omega) (by omega) d_P_takeFrame_54 (by decide) rfl (fun c54_5 => ?_) (fun c54_5 => ?_)
          · exfalso; omega
          · refine V.aload_n C (n := 58) (j := 1) d_P_takeFrame_57 rfl rfl rfl ?_
            refine V.callV_i C (n := 61) (ws' := (ParW y (x 0) (wS sg le (wE sg le (wE sg le (wE sg le we)))) (wE sg le (wE sg le (wE sg le (wE sg le we)))) le) ++ (TxtW x cC sg ln lo) ++ (TabW b cI sd pd rk gp of to n)) (c_T_isFull l D cI cC E (b) (sd) (pd) (rk) (gp) (of) (to) (n) (by first | assumption | omega)) cw_P_74 [3, 4, 5, 6, 7, 8, 9] [0, 1, 2] [0, 1, 2, 3, 4, 5, 6, 7, 8, 9] (qr := 0) rfl rfl rfl (of_decide_eq_true rfl) rfl (of_decide_eq_true rfl) rfl (of_decide_eq_true rfl) rfl (of_decide_eq_true rfl) rfl ⟨rfl, rfl⟩ ⟨by decide, by decide⟩ ⟨by decide, by decide⟩ rfl rfl (of_decide_eq_true rfl) d_P_takeFrame_58 rfl ?_
            refine V.ifb_eq C (tgt := 66) (n := 64) d_P_takeFrame_61 (by decide) rfl (fun c61_6 => ?_) (fun c61_6 => ?_)
            · refine V.aload_n C (n := 67) (j := 1) d_P_takeFrame_66 rfl rfl rfl ?_
              refine V.iload_n C (n := 68) (j := 2) d_P_takeFrame_67 rfl rfl rfl ?_
              refine V.iload_n C (n := 69) (j := 3) d_P_takeFrame_68 rfl rfl rfl ?_
              refine V.iload C (n := 71) (j := 4) d_P_takeFrame_69 rfl rfl ?_
              refine V.iload C (n := 73) (j := 5) d_P_takeFrame_71 rfl rfl ?_
              refine V.callV_i C (n := 76) (ws' := (ParW y (x 0) (wS sg le (wE sg le (wE sg le (wE sg le we)))) (wE sg le (wE sg le (wE sg le (wE sg le we)))) le) ++ (TxtW x cC sg ln lo) ++ (TabW b cI (updN sd (n + 1) s9) (updN pd (n + 1) p9) (updN rk (n + 1) r9) (updN gp (n + 1) g9) (updN of (n + 1) 0) (clrT to (n + 1) 20) (n + 1))) (c_T_append l D cI cC E (b) (sd) (pd) (rk) (gp) (of) (to) (n) (s9) (p9) (r9) (g9) (by first | assumption | omega) h40 (by omega) (by omega) (by omega) (by omega)) cw_P_77 [3, 4, 5, 6, 7, 8, 9] [0, 1, 2] [0, 1, 2, 3, 4, 5, 6, 7, 8, 9] (qr := 0) rfl rfl rfl (of_decide_eq_true rfl) rfl (of_decide_eq_true rfl) rfl (of_decide_eq_true rfl) rfl (of_decide_eq_true rfl) rfl ⟨rfl, rfl⟩ ⟨by decide, by decide⟩ ⟨by decide, by decide⟩ rfl rfl (of_decide_eq_true rfl) d_P_takeFrame_73 rfl ?_
              refine V.pop C (n := 77) d_P_takeFrame_76 rfl rfl ?_
              refine V.iconst C (v := nI 1) (n := 78) d_P_takeFrame_77 (by decide) rfl ?_
              exact V.zret C hr (bI_nar _) d_P_takeFrame_78 (bI_1 trivial) (rfl)
            · exfalso; omega
      · exfalso; omega
set_option maxHeartbeats 4000000 in
set_option maxRecDepth 100000 in
theorem c_P_takeReaders (l : Launch) (D : va_G) (cI cC : ClassId) (E : Nat → Nat) (y x b : Nat → Nat) (sg : Nat → Nat) (ln : Nat) (lo : Bool) (ws we le : Nat) (sd pd rk gp of to : Nat → Nat) (n : Nat) (hX0 : TxtOK sg ln) (hle : le ≤ ln) (hwe : we ≤ 2000) (hT : TabOK sd pd rk gp of to n) : CI l D (TY cI cC E) m_P_takeReaders (rmD 7) [.ref (y 0), .ref (b 0)] ((ParW y (x 0) ws we le) ++ (TxtW x cC sg ln lo) ++ (TabW b cI sd pd rk gp of to n)) (bI ((rdR sg le (sd n) n 2001 ws we to).1 = true)) ((ParW y (x 0) ((rdR sg le (sd n) n 2001 ws we to).2.1) ((rdR sg le (sd n) n 2001 ws we to).2.2.1) le) ++ (TxtW x cC sg ln lo) ++ (TabW b cI sd pd rk gp of ((rdR sg le (sd n) n 2001 ws we to).2.2.2) n)) := by
  obtain ⟨hln, hsg⟩ := id hX0
  obtain ⟨hn, hsd, hpd, hrk, hgp, hof, hto⟩ := id hT
  have hl2 : le ≤ 2000 := by omega
  refine CI.of (by decide +kernel) (of_decide_eq_true rfl) ?_
  intro p e s m args below meth c C hr
  refine V.iconst C (v := nI 0) (n := 1) d_P_takeReaders_0 (by decide) rfl ?_
  refine V.istore_n C (n := 2) (lv' := [(0, .ref (y 0)), (1, .ref (b 0)), (2, .int (nI 0))]) [1, 2, 0] d_P_takeReaders_1 rfl (by decide) rfl rfl ?_
  refine V.lsub C [0, 1, 2] (lv' := [(0, .ref (y 0)), (1, .ref (b 0)), (2, .int (nI 0))]) rfl ?_
  refine V.ind4 C (fun (j : Nat) (w1 : Nat) (w2 : Nat) (tt : Nat → Nat) => (ParW y (x 0) w1 w2 le) ++ (TxtW x cC sg ln lo) ++ (TabW b cI sd pd rk gp of tt n)) (fun (j : Nat) (w1 : Nat) (w2 : Nat) (tt : Nat → Nat) => [(0, .ref (y 0)), (1, .ref (b 0)), (2, .int (nI j))]) (fun (j : Nat) (w1 : Nat) (w2 : Nat) (tt : Nat → Nat) => (j ≤ 2001) ∧ (rdR sg le (sd n) n (2001 - j) w1 w2 tt = (rdR sg le (sd n) n 2001 ws we to)) ∧ (w2 ≤ 2000) ∧ (∀ i, tt i ≤ 10000)) (fun (j : Nat) (w1 : Nat) (w2 : Nat) (tt : Nat → Nat) => 2001 - j) (0) (ws) (we) (to) ⟨by omega, rfl, hwe, hto⟩ rfl rfl ?_
  rintro j w1 w2 tt ⟨hj, hq, hw9, htt⟩ ih2
  try dsimp only
  have hT9 : TabOK sd pd rk gp of tt n := ⟨hn, hsd, hpd, hrk, hgp, hof, htt⟩
  have q1 := nmV_rng sg le (wE sg le w2)
  have q2 := nmV_rng sg le (wE sg le (wE sg le w2))
  have hs0 := hsd n
  have z1 := wE_b (sg := sg) hl2 hw9
  have z2 := wE_b (sg := sg) hl2 z1
  have z3 := wE_b (sg := sg) hl2 z2
  have z4 := wS_rng sg le w2
  have z5 := wE_rng sg le w2
  refine V.iload_n C (n := 3) (j := 2) d_P_takeReaders_2 rfl rfl rfl ?_
  refine V.sipush C (v := nI 2000) (n := 6) d_P_takeReaders_3 (by decide) rfl ?_
  refine V.icmpn_gt C (tgt := 73) (n := 9) (by omega) (by omega) d_P_takeReaders_6 (by decide) rfl (fun c6_1 => ?_) (fun c6_1 => ?_)
  · refine V.iconst C (v := nI 0) (n := 74) d_P_takeReaders_73 (by decide) rfl ?_
    exact V.zret C hr (bI_nar _) d_P_takeReaders_74 (by rw [← hq, show 2001 - j = 0 by omega]; exact bI_0 Bool.false_ne_true) (by rw [← hq, show 2001 - j = 0 by omega]; try rfl)
  · refine V.aload_n C (n := 10) (j := 0) d_P_takeReaders_9 rfl rfl rfl ?_
    refine V.callV_i C (n := 13) (ws' := (ParW y (x 0) (wS sg le w2) (wE sg le w2) le) ++ (TxtW x cC sg ln lo) ++ (TabW b cI sd pd rk gp of tt n)) (c_P_nextWord l D cI cC E (y) (x) (sg) (ln) (lo) (w1) (w2) (le) (by first | assumption | omega) (by first | assumption | omega) hw9) cw_P_44 [0, 1, 2] [3, 4, 5, 6, 7, 8, 9] [7, 8, 9, 0, 1, 2, 3, 4, 5, 6] (qr := 0) rfl rfl rfl (of_decide_eq_true rfl) rfl (of_decide_eq_true rfl) rfl (of_decide_eq_true rfl) rfl (of_decide_eq_true rfl) rfl ⟨rfl, rfl⟩ ⟨by decide, by decide⟩ ⟨by decide, by decide⟩ rfl rfl (of_decide_eq_true rfl) d_P_takeReaders_10 rfl ?_
    refine V.ifb_ne C (tgt := 18) (n := 16) d_P_takeReaders_13 (by decide) rfl (fun c13_2 => ?_) (fun c13_2 => ?_)
    · refine V.aload_n C (n := 19) (j := 0) d_P_takeReaders_18 rfl rfl rfl ?_
      refine V.ldcS C (n := 21) ls_P_81 d_P_takeReaders_19 rfl ?_
      refine V.callV_i C (n := 24) (ws' := (ParW y (x 0) (wS sg le w2) (wE sg le w2) le) ++ (TxtW x cC sg ln lo) ++ (TabW b cI sd pd rk gp of tt n)) (c_P_wordIs l D cI cC E (y) (x) (sg) (ln) (lo) (wS sg le w2) (wE sg le w2) (le) (1) (by first | assumption | omega) (by first | assumption | omega) z1 (by decide) z5.1 (by omega)) cw_P_50 [0, 1, 2] [3, 4, 5, 6, 7, 8, 9] [7, 8, 9, 0, 1, 2, 3, 4, 5, 6] (qr := 0) rfl rfl rfl (of_decide_eq_true rfl) rfl (of_decide_eq_true rfl) rfl (of_decide_eq_true rfl) rfl (of_decide_eq_true rfl) rfl ⟨rfl, rfl⟩ ⟨by decide, by decide⟩ ⟨by decide, by decide⟩ rfl rfl (of_decide_eq_true rfl) d_P_takeReaders_21 rfl ?_
      refine V.istore_n C (n := 25) (lv' := [(0, .ref (y 0)), (1, .ref (b 0)), (2, .int (nI j)), (3, .int (bI (wIs sg (wS sg le w2) (wE sg le w2) 1 = true)))]) [1, 2, 3, 0] d_P_takeReaders_24 rfl (by decide) rfl rfl ?_
      refine V.aload_n C (n := 26) (j := 0) d_P_takeReaders_25 rfl rfl rfl ?_
      refine V.callV_i C (n := 29) (ws' := (ParW y (x 0) (wS sg le (wE sg le w2)) (wE sg le (wE sg le w2)) le) ++ (TxtW x cC sg ln lo) ++ (TabW b cI sd pd rk gp of tt n)) (c_P_nextNumber l D cI cC E (y) (x) (sg) (ln) (lo) (wS sg le w2) (wE sg le w2) (le) (by first | assumption | omega) (by first | assumption | omega) z1) cw_P_61 [0, 1, 2] [3, 4, 5, 6, 7, 8, 9] [7, 8, 9, 0, 1, 2, 3, 4, 5, 6] (qr := 0) rfl rfl rfl (of_decide_eq_true rfl) rfl (of_decide_eq_true rfl) rfl (of_decide_eq_true rfl) rfl (of_decide_eq_true rfl) rfl ⟨rfl, rfl⟩ ⟨by decide, by decide⟩ ⟨by decide, by decide⟩ rfl rfl (of_decide_eq_true rfl) d_P_takeReaders_26 rfl ?_
      refine V.istore C (n := 31) (lv' := [(0, .ref (y 0)), (1, .ref (b 0)), (2, .int (nI j)), (3, .int (bI (wIs sg (wS sg le w2) (wE sg le w2) 1 = true))), (4, .int (iI (nmV sg le (wE sg le w2))))]) [1, 2, 3, 4, 0] d_P_takeReaders_29 (by decide) rfl rfl ?_
      refine V.aload_n C (n := 32) (j := 0) d_P_takeReaders_31 rfl rfl rfl ?_
      refine V.callV_i C (n := 35) (ws' := (ParW y (x 0) (wS sg le (wE sg le (wE sg le w2))) (wE sg le (wE sg le (wE sg le w2))) le) ++ (TxtW x cC sg ln lo) ++ (TabW b cI sd pd rk gp of tt n)) (c_P_nextNumber l D cI cC E (y) (x) (sg) (ln) (lo) (wS sg le (wE sg le w2)) (wE sg le (wE sg le w2)) (le) (by first | assumption | omega) (by first | assumption | omega) z2) cw_P_61 [0, 1, 2] [3, 4, 5, 6, 7, 8, 9] [7, 8, 9, 0, 1, 2, 3, 4, 5, 6] (qr := 0) rfl rfl rfl (of_decide_eq_true rfl) rfl (of_decide_eq_true rfl) rfl (of_decide_eq_true rfl) rfl (of_decide_eq_true rfl) rfl ⟨rfl, rfl⟩ ⟨by decide, by decide⟩ ⟨by decide, by decide⟩ rfl rfl (of_decide_eq_true rfl) d_P_takeReaders_32 rfl ?_
      refine V.istore C (n := 37) (lv' := [(0, .ref (y 0)), (1, .ref (b 0)), (2, .int (nI j)), (3, .int (bI (wIs sg (wS sg le w2) (wE sg le w2) 1 = true))), (4, .int (iI (nmV sg le (wE sg le w2)))), (5, .int (iI (nmV sg le (wE sg le (wE sg le w2)))))]) [1, 2, 3, 4, 5, 0] d_P_takeReaders_35 (by decide) rfl rfl ?_
      refine V.iload_n C (n := 38) (j := 3) d_P_takeReaders_37 rfl rfl rfl ?_
      refine V.ifb_eq C (tgt := 53) (n := 41) d_P_takeReaders_38 (by decide) rfl (fun c38_3 => ?_) (fun c38_3 => ?_)
      · refine V.iconst C (v := nI 0) (n := 54) d_P_takeReaders_53 (by decide) rfl ?_
        exact V.zret C hr (bI_nar _) d_P_takeReaders_54 (by rw [← hq, show 2001 - j = (2001 - (j + 1)) + 1 by omega, rdR_f (by assumption) (by rintro ⟨u1, a1, a2, a3, a4, a5⟩; first | exact absurd u1 (by assumption) | omega)]; exact bI_0 Bool.false_ne_true) (by rw [← hq, show 2001 - j = (2001 - (j + 1)) + 1 by omega, rdR_f (by assumption) (by rintro ⟨u1, a1, a2, a3, a4, a5⟩; first | exact absurd u1 (by assumption) | omega)]; try rfl)
      · refine V.aload_n C (n := 42) (j := 0) d_P_takeReaders_41 rfl rfl rfl ?_
        refine V.aload_n C (n := 43) (j := 1) d_P_takeReaders_42 rfl rfl rfl ?_
        refine V.iload C (n := 45) (j := 4) d_P_takeReaders_43 rfl rfl ?_
        refine V.iload C (n := 47) (j := 5) d_P_takeReaders_45 rfl rfl ?_
        refine V.callV_i C (n := 50) (ws' := (ParW y (x 0) (wS sg le (wE sg le (wE sg le w2))) (wE sg le (wE sg le (wE sg le w2))) le) ++ (TxtW x cC sg ln lo) ++ (TabW b cI sd pd rk gp of tt n)) (c_P_mayRead l D cI cC E (y) (b) (x 0) (wS sg le (wE sg le (wE sg le w2))) (wE sg le (wE sg le (wE sg le w2))) (le) (sd) (pd) (rk) (gp) (of) (tt) (n) (nmV sg le (wE sg le w2)) (nmV sg le (wE sg le (wE sg le w2))) hT9 (by first | assumption | omega) (by first | assumption | omega)) cw_P_83 [0, 3, 4, 5, 6, 7, 8, 9] [1, 2] [2, 0, 1, 3, 4, 5, 6, 7, 8, 9] (qr := 0) rfl rfl rfl (of_decide_eq_true rfl) rfl (of_decide_eq_true rfl) rfl (of_decide_eq_true rfl) rfl (of_decide_eq_true rfl) rfl ⟨rfl, rfl⟩ ⟨by decide, by decide⟩ ⟨by decide, by decide⟩ rfl rfl (of_decide_eq_true rfl) d_P_takeReaders_47 rfl ?_
        refine V.ifb_ne C (tgt := 55) (n := 53) d_P_takeReaders_50 (by decide) rfl (fun c50_4 => ?_) (fun c50_4 => ?_)
        · obtain ⟨k9, hk9⟩ := Int.eq_ofNat_of_zero_le (show 0 ≤ nmV sg le (wE sg le w2) by omega)
          obtain ⟨t9, ht9⟩ := Int.eq_ofNat_of_zero_le (show 0 ≤ nmV sg le (wE sg le (wE sg le w2)) by omega)
          refine V.aload_n C (n := 56) (j := 1) d_P_takeReaders_55 rfl rfl rfl ?_
          refine V.aload_n C (n := 57) (j := 1) d_P_takeReaders_56 rfl rfl rfl ?_
          refine V.callV_i C (n := 60) (ws' := (ParW y (x 0) (wS sg le (wE sg le (wE sg le w2))) (wE sg le (wE sg le (wE sg le w2))) le) ++ (TxtW x cC sg ln lo) ++ (TabW b cI sd pd rk gp of tt n)) (c_T_size l D cI cC E (b) (sd) (pd) (rk) (gp) (of) (tt) (n) hT9) cw_P_87 [3, 4, 5, 6, 7, 8, 9] [0, 1, 2] [0, 1, 2, 3, 4, 5, 6, 7, 8, 9] (qr := 0) rfl rfl rfl (of_decide_eq_true rfl) rfl (of_decide_eq_true rfl) rfl (of_decide_eq_true rfl) rfl (of_decide_eq_true rfl) rfl ⟨rfl, rfl⟩ ⟨by decide, by decide⟩ ⟨by decide, by decide⟩ rfl rfl (of_decide_eq_true rfl) d_P_takeReaders_57 rfl ?_
          refine V.iload C (n := 62) (j := 4) d_P_takeReaders_60 rfl rfl ?_
          refine V.cv C (y := nI k9) (by rw [hk9, iI_nat]) ?_
          refine V.iload C (n := 64) (j := 5) d_P_takeReaders_62 rfl rfl ?_
          refine V.cv C (y := nI t9) (by rw [ht9, iI_nat]) ?_
          refine V.callV_v C (n := 67) (ws2 := fun _ => (ParW y (x 0) (wS sg le (wE sg le (wE sg le w2))) (wE sg le (wE sg le (wE sg le w2))) le) ++ (TxtW x cC sg ln lo) ++ (TabW b cI sd pd rk gp of (updN tt (n * 21 + k9) t9) n)) (c_T_setTimeout l D cI cC E (b) (sd) (pd) (rk) (gp) (of) (tt) (n) (n) (k9) (t9) hT9 (by first | assumption | omega) (by first | assumption | omega) (by first | assumption | omega)) cw_P_90 [3, 4, 5, 6, 7, 8, 9] [0, 1, 2] [0, 1, 2, 3, 4, 5, 6, 7, 8, 9] (qr := 0) rfl rfl rfl (of_decide_eq_true rfl) rfl (of_decide_eq_true rfl) rfl (of_decide_eq_true rfl) (fun _ => rfl) (fun _ => of_decide_eq_true rfl) rfl ⟨rfl, rfl⟩ ⟨by decide, by decide⟩ ⟨by decide, by decide⟩ rfl rfl (of_decide_eq_true rfl) d_P_takeReaders_64 rfl (fun _ _ => ?_)
          refine V.iinc C (n := 70) (j := 2) (v := nI (j + 1)) (lv' := [(0, .ref (y 0)), (1, .ref (b 0)), (2, .int (nI (j + 1))), (3, .int (bI (wIs sg (wS sg le w2) (wE sg le w2) 1 = true))), (4, .int (iI (nmV sg le (wE sg le w2)))), (5, .int (iI (nmV sg le (wE sg le (wE sg le w2)))))]) [1, 2, 0, 3, 4, 5] d_P_takeReaders_67 rfl (nI_inc (j) 1) (by decide) rfl rfl ?_
          refine V.goto C (n := 2) d_P_takeReaders_70 (by decide) ?_
          refine V.lsub C [0, 1, 2] (lv' := [(0, .ref (y 0)), (1, .ref (b 0)), (2, .int (nI (j + 1)))]) rfl ?_
          refine V.lsub C [0, 1, 2] (lv' := [(0, .ref (y 0)), (1, .ref (b 0)), (2, .int (nI (j + 1)))]) rfl ?_
          exact ih2 (j + 1) (wS sg le (wE sg le (wE sg le w2))) (wE sg le (wE sg le (wE sg le w2))) (updN tt (n * 21 + k9) t9) ⟨by omega, by rw [← hq, show 2001 - j = (2001 - (j + 1)) + 1 by omega]; exact (rdR_t (by assumption) (by assumption) ⟨by omega, by omega, by omega, by omega, by omega⟩ hk9 ht9).symm, z3, updN_le htt (by omega)⟩ (by omega)
        · refine V.iconst C (v := nI 0) (n := 54) d_P_takeReaders_53 (by decide) rfl ?_
          exact V.zret C hr (bI_nar _) d_P_takeReaders_54 (by rw [← hq, show 2001 - j = (2001 - (j + 1)) + 1 by omega, rdR_f (by assumption) (by rintro ⟨u1, a1, a2, a3, a4, a5⟩; first | exact absurd u1 (by assumption) | omega)]; exact bI_0 Bool.false_ne_true) (by rw [← hq, show 2001 - j = (2001 - (j + 1)) + 1 by omega, rdR_f (by assumption) (by rintro ⟨u1, a1, a2, a3, a4, a5⟩; first | exact absurd u1 (by assumption) | omega)]; try rfl)
    · refine V.iconst C (v := nI 1) (n := 17) d_P_takeReaders_16 (by decide) rfl ?_
      exact V.zret C hr (bI_nar _) d_P_takeReaders_17 (by rw [← hq, show 2001 - j = (2001 - (j + 1)) + 1 by omega, rdR_e (by assumption)]; exact bI_1 rfl) (by rw [← hq, show 2001 - j = (2001 - (j + 1)) + 1 by omega, rdR_e (by assumption)]; try rfl)
end
section
def tD (t : TbS) : Prop := TabOK t.1 t.2.1 t.2.2.1 t.2.2.2.1 t.2.2.2.2.1 t.2.2.2.2.2.1 t.2.2.2.2.2.2
theorem apS_ok {t : TbS} {s9 p9 r9 g9 : Nat} (h : tD t) (h40 : t.2.2.2.2.2.2 < 40) (hs : s9 ≤ 20) (hp : p9 ≤ 60) (hq : r9 ≤ 99) (hg : g9 ≤ 60) : tD (apS t s9 p9 r9 g9) := TabOK_app h h40 hs hp hq hg (clrT_le h.2.2.2.2.2.2)
theorem rdR_le {sg : Nat → Nat} {le s0 n : Nat} (f : Nat) : ∀ (w1 w2 : Nat) (tt : Nat → Nat), (∀ i, tt i ≤ 10000) → ∀ i, (rdR sg le s0 n f w1 w2 tt).2.2.2 i ≤ 10000 := by
  induction f with
  | zero => intro w1 w2 tt h; exact h
  | succ f ih =>
    intro w1 w2 tt h
    by_cases c1 : wS sg le w2 < wE sg le w2
    · by_cases c2 : wIs sg (wS sg le w2) (wE sg le w2) 1 = true ∧ rdK (nmV sg le (wE sg le w2)) (nmV sg le (wE sg le (wE sg le w2))) s0
      · obtain ⟨k9, hk⟩ := Int.eq_ofNat_of_zero_le (show 0 ≤ nmV sg le (wE sg le w2) by have := c2.2.1; omega)
        obtain ⟨t9, ht⟩ := Int.eq_ofNat_of_zero_le (show 0 ≤ nmV sg le (wE sg le (wE sg le w2)) by have := c2.2.2.2.2.1; omega)
        rw [rdR_t c1 c2.1 c2.2 hk ht]
        exact ih _ _ _ (updN_le h (by have := c2.2.2.2.2.2; omega))
      · rw [rdR_f c1 c2]; exact h
    · rw [rdR_e c1]; exact h
/-- a frame's row laid, then its readers -/
noncomputable def rdT (F : Nat) (sg : Nat → Nat) (en w1 w2 : Nat) (t : TbS) : Bool × Nat × Nat × TbS :=
  ((rdR sg en (t.1 t.2.2.2.2.2.2) t.2.2.2.2.2.2 F w1 w2 t.2.2.2.2.2.1).1, (rdR sg en (t.1 t.2.2.2.2.2.2) t.2.2.2.2.2.2 F w1 w2 t.2.2.2.2.2.1).2.1, (rdR sg en (t.1 t.2.2.2.2.2.2) t.2.2.2.2.2.2 F w1 w2 t.2.2.2.2.2.1).2.2.1, t.1, t.2.1, t.2.2.1, t.2.2.2.1, t.2.2.2.2.1, (rdR sg en (t.1 t.2.2.2.2.2.2) t.2.2.2.2.2.2 F w1 w2 t.2.2.2.2.2.1).2.2.2, t.2.2.2.2.2.2)
theorem rdT_R {F : Nat} {sg : Nat → Nat} {en w1 w2 : Nat} {t : TbS} {R : Bool × Nat × Nat × (Nat → Nat)} (hR : R = rdR sg en (t.1 t.2.2.2.2.2.2) t.2.2.2.2.2.2 F w1 w2 t.2.2.2.2.2.1) : rdT F sg en w1 w2 t = (R.1, R.2.1, R.2.2.1, t.1, t.2.1, t.2.2.1, t.2.2.2.1, t.2.2.2.2.1, R.2.2.2, t.2.2.2.2.2.2) := by
  subst hR
  rfl
theorem rdT_ok {F : Nat} {sg : Nat → Nat} {en w1 w2 : Nat} {t : TbS} (h : tD t) : tD (rdT F sg en w1 w2 t).2.2.2 := ⟨h.1, h.2.1, h.2.2.1, h.2.2.2.1, h.2.2.2.2.1, h.2.2.2.2.2.1, rdR_le F w1 w2 t.2.2.2.2.2.1 h.2.2.2.2.2.2⟩
def fN (sg : Nat → Nat) (en we : Nat) : Nat → Nat
  | 0 => we
  | k + 1 => wE sg en (fN sg en we k)
/-- a line from st to en -/
noncomputable def tkL (sg : Nat → Nat) (st en : Nat) (t : TbS) : Bool × Nat × Nat × TbS :=
  if wS sg en st < wE sg en st then
    if wIs sg (wS sg en st) (wE sg en st) 0 = true then
      @ite _ (okF sg en (wE sg en st) t.2.2.2.2.2.2) (Classical.propDecidable _)
        (rdT 2001 sg en (wS sg en (fN sg en (wE sg en st) 3)) (fN sg en (wE sg en st) 4) (apS t (nmV sg en (wE sg en st)).toNat (nmV sg en (fN sg en (wE sg en st) 1)).toNat (nmV sg en (fN sg en (wE sg en st) 2)).toNat (nmV sg en (fN sg en (wE sg en st) 3)).toNat))
        (false, wS sg en (fN sg en (wE sg en st) 3), fN sg en (wE sg en st) 4, t)
    else (false, wS sg en st, wE sg en st, t)
  else (true, wS sg en st, wE sg en st, t)
theorem tkL_e {sg : Nat → Nat} {st en : Nat} {t : TbS} (h : ¬ wS sg en st < wE sg en st) : tkL sg st en t = (true, wS sg en st, wE sg en st, t) := by rw [tkL, if_neg h]
theorem tkL_n {sg : Nat → Nat} {st en : Nat} {t : TbS} (h : wS sg en st < wE sg en st) (h2 : ¬ wIs sg (wS sg en st) (wE sg en st) 0 = true) : tkL sg st en t = (false, wS sg en st, wE sg en st, t) := by rw [tkL, if_pos h, if_neg h2]
theorem tkL_b {sg : Nat → Nat} {st en : Nat} {t : TbS} (h : wS sg en st < wE sg en st) (h2 : wIs sg (wS sg en st) (wE sg en st) 0 = true) (h3 : ¬ okF sg en (wE sg en st) t.2.2.2.2.2.2) : tkL sg st en t = (false, wS sg en (fN sg en (wE sg en st) 3), fN sg en (wE sg en st) 4, t) := by rw [tkL, if_pos h, if_pos h2, if_neg h3]
theorem tkL_o {sg : Nat → Nat} {st en s9 p9 r9 g9 : Nat} {t : TbS} (h : wS sg en st < wE sg en st) (h2 : wIs sg (wS sg en st) (wE sg en st) 0 = true) (h3 : okF sg en (wE sg en st) t.2.2.2.2.2.2) (e1 : nmV sg en (wE sg en st) = (s9 : Int)) (e2 : nmV sg en (fN sg en (wE sg en st) 1) = (p9 : Int)) (e3 : nmV sg en (fN sg en (wE sg en st) 2) = (r9 : Int)) (e4 : nmV sg en (fN sg en (wE sg en st) 3) = (g9 : Int)) : tkL sg st en t = rdT 2001 sg en (wS sg en (fN sg en (wE sg en st) 3)) (fN sg en (wE sg en st) 4) (apS t s9 p9 r9 g9) := by
  rw [tkL, if_pos h, if_pos h2, if_pos h3, e1, e2, e3, e4]
  rfl
theorem tkL_ok {sg : Nat → Nat} {st en : Nat} {t : TbS} (h : tD t) : tD (tkL sg st en t).2.2.2 := by
  by_cases c1 : wS sg en st < wE sg en st
  · by_cases c2 : wIs sg (wS sg en st) (wE sg en st) 0 = true
    · by_cases c3 : okF sg en (wE sg en st) t.2.2.2.2.2.2
      · obtain ⟨g1, g2, g3, g4, g5, g6, g7, g8, g9'⟩ := id c3
        obtain ⟨s9, e1⟩ := Int.eq_ofNat_of_zero_le (show 0 ≤ nmV sg en (wE sg en st) by omega)
        obtain ⟨p9, e2⟩ := Int.eq_ofNat_of_zero_le (show 0 ≤ nmV sg en (wE sg en (wE sg en st)) by omega)
        obtain ⟨r9, e3⟩ := Int.eq_ofNat_of_zero_le g5
        obtain ⟨g9, e4⟩ := Int.eq_ofNat_of_zero_le g7
        rw [tkL_o c1 c2 c3 e1 e2 e3 e4]
        have h2 := apS_ok (s9 := s9) (p9 := p9) (r9 := r9) (g9 := g9) h g9' (by omega) (by omega) (by omega) (by omega)
        exact rdT_ok h2
      · rw [tkL_b c1 c2 c3]; exact h
    · rw [tkL_n c1 c2]; exact h
  · rw [tkL_e c1]; exact h
theorem tkL_e2 {sg : Nat → Nat} {st en v0 s0 : Nat} {t : TbS} (h0 : v0 = wE sg en st) (h1 : s0 = wS sg en st) (h : ¬ s0 < v0) : tkL sg st en t = (true, s0, v0, t) := by subst h0; subst h1; exact tkL_e h
theorem tkL_n2 {sg : Nat → Nat} {st en v0 s0 : Nat} {t : TbS} (h0 : v0 = wE sg en st) (h1 : s0 = wS sg en st) (h : s0 < v0) (h2 : ¬ wIs sg s0 v0 0 = true) : tkL sg st en t = (false, s0, v0, t) := by subst h0; subst h1; exact tkL_n h h2
theorem tkL_b2 {sg : Nat → Nat} {st en v0 s0 v1 v2 v3 v4 w3 : Nat} {t : TbS} (h0 : v0 = wE sg en st) (h1 : s0 = wS sg en st) (hv1 : v1 = wE sg en v0) (hv2 : v2 = wE sg en v1) (hv3 : v3 = wE sg en v2) (hv4 : v4 = wE sg en v3) (hw3 : w3 = wS sg en v3) (h : s0 < v0) (h2 : wIs sg s0 v0 0 = true) (h3 : ¬ (1 ≤ nmV sg en v0 ∧ nmV sg en v0 ≤ 20 ∧ 1 ≤ nmV sg en v1 ∧ nmV sg en v1 ≤ 60 ∧ 0 ≤ nmV sg en v2 ∧ nmV sg en v2 ≤ 99 ∧ 0 ≤ nmV sg en v3 ∧ nmV sg en v3 ≤ nmV sg en v1 ∧ t.2.2.2.2.2.2 < 40)) : tkL sg st en t = (false, w3, v4, t) := by
  subst hw3; subst hv4; subst hv3; subst hv2; subst hv1; subst h0; subst h1
  exact tkL_b h h2 h3
theorem tkL_o2 {sg : Nat → Nat} {st en v0 s0 v1 v2 v3 v4 w3 s9 p9 r9 g9 : Nat} {t Q9 : TbS} {R9 : Bool × Nat × Nat × (Nat → Nat)} (h0 : v0 = wE sg en st) (h1 : s0 = wS sg en st) (hv1 : v1 = wE sg en v0) (hv2 : v2 = wE sg en v1) (hv3 : v3 = wE sg en v2) (hv4 : v4 = wE sg en v3) (hw3 : w3 = wS sg en v3) (h : s0 < v0) (h2 : wIs sg s0 v0 0 = true) (h3 : 1 ≤ nmV sg en v0 ∧ nmV sg en v0 ≤ 20 ∧ 1 ≤ nmV sg en v1 ∧ nmV sg en v1 ≤ 60 ∧ 0 ≤ nmV sg en v2 ∧ nmV sg en v2 ≤ 99 ∧ 0 ≤ nmV sg en v3 ∧ nmV sg en v3 ≤ nmV sg en v1 ∧ t.2.2.2.2.2.2 < 40) (e1 : nmV sg en v0 = (s9 : Int)) (e2 : nmV sg en v1 = (p9 : Int)) (e3 : nmV sg en v2 = (r9 : Int)) (e4 : nmV sg en v3 = (g9 : Int)) (hQ : Q9 = apS t s9 p9 r9 g9) (hR : R9 = rdR sg en (Q9.1 Q9.2.2.2.2.2.2) Q9.2.2.2.2.2.2 2001 w3 v4 Q9.2.2.2.2.2.1) : tkL sg st en t = (R9.1, R9.2.1, R9.2.2.1, Q9.1, Q9.2.1, Q9.2.2.1, Q9.2.2.2.1, Q9.2.2.2.2.1, R9.2.2.2, Q9.2.2.2.2.2.2) := by
  have f1 : fN sg en v0 1 = v1 := by rw [hv1]; rfl
  have f2 : fN sg en v0 2 = v2 := by rw [hv2, ← f1]; rfl
  have f3 : fN sg en v0 3 = v3 := by rw [hv3, ← f2]; rfl
  have f4 : fN sg en v0 4 = v4 := by rw [hv4, ← f3]; rfl
  have h4 : okF sg en v0 t.2.2.2.2.2.2 := by unfold okF; rw [← hv1, ← hv2, ← hv3]; exact h3
  subst h0; subst h1
  rw [tkL_o h h2 h4 e1 (by rw [f1]; exact e2) (by rw [f2]; exact e3) (by rw [f3]; exact e4), f3, f4, ← hw3, ← hQ]
  exact rdT_R hR
/-- line by line: the number of the line that ended it, 0 if none; what is left of the fuel says which sign -/
noncomputable def flR (sg : Nat → Nat) (ln : Nat) : Nat → Nat → Nat → Nat → Nat → Nat → TbS → Nat × Nat × Nat × Nat × TbS
  | 0, _, _, w1, w2, w3, t => (0, w1, w2, w3, t)
  | f + 1, L, st, w1, w2, w3, t => if ln - f = ln ∨ sg (ln - f) = 10 then (if (tkL sg st (ln - f) t).1 = true then flR sg ln f (L + 1) (ln - f + 1) (tkL sg st (ln - f) t).2.1 (tkL sg st (ln - f) t).2.2.1 (ln - f) (tkL sg st (ln - f) t).2.2.2 else (L, (tkL sg st (ln - f) t).2.1, (tkL sg st (ln - f) t).2.2.1, ln - f, (tkL sg st (ln - f) t).2.2.2)) else flR sg ln f L st w1 w2 w3 t
theorem flR_0 {sg : Nat → Nat} {ln i L st w1 w2 w3 : Nat} {t : TbS} (h : ln < i) : flR sg ln (ln + 1 - i) L st w1 w2 w3 t = (0, w1, w2, w3, t) := by rw [show ln + 1 - i = 0 by omega, flR]
theorem flR_n {sg : Nat → Nat} {ln i L st w1 w2 w3 : Nat} {t : TbS} (hi : i ≤ ln) (h : ¬ (i = ln ∨ sg i = 10)) : flR sg ln (ln + 1 - i) L st w1 w2 w3 t = flR sg ln (ln + 1 - (i + 1)) L st w1 w2 w3 t := by
  rw [show ln + 1 - i = (ln - i) + 1 by omega, flR, show ln - (ln - i) = i by omega, if_neg h, show ln + 1 - (i + 1) = ln - i by omega]
theorem flR_t {sg : Nat → Nat} {ln i L st w1 w2 w3 : Nat} {t : TbS} (hi : i ≤ ln) (h : i = ln ∨ sg i = 10) (h2 : (tkL sg st i t).1 = true) : flR sg ln (ln + 1 - i) L st w1 w2 w3 t = flR sg ln (ln + 1 - (i + 1)) (L + 1) (i + 1) (tkL sg st i t).2.1 (tkL sg st i t).2.2.1 i (tkL sg st i t).2.2.2 := by
  rw [show ln + 1 - i = (ln - i) + 1 by omega, flR, show ln - (ln - i) = i by omega, if_pos h, if_pos h2, show ln + 1 - (i + 1) = ln - i by omega]
theorem flR_f {sg : Nat → Nat} {ln i L st w1 w2 w3 : Nat} {t : TbS} (hi : i ≤ ln) (h : i = ln ∨ sg i = 10) (h2 : ¬ (tkL sg st i t).1 = true) : flR sg ln (ln + 1 - i) L st w1 w2 w3 t = (L, (tkL sg st i t).2.1, (tkL sg st i t).2.2.1, i, (tkL sg st i t).2.2.2) := by
  rw [show ln + 1 - i = (ln - i) + 1 by omega, flR, show ln - (ln - i) = i by omega, if_pos h, if_neg h2]
theorem flR_t2 {sg : Nat → Nat} {ln i L st w1 w2 w3 : Nat} {t : TbS} {Z : Bool × Nat × Nat × TbS} (hZ : Z = tkL sg st i t) (hi : i ≤ ln) (h : i = ln ∨ sg i = 10) (h2 : Z.1 = true) : flR sg ln (ln + 1 - i) L st w1 w2 w3 t = flR sg ln (ln + 1 - (i + 1)) (L + 1) (i + 1) Z.2.1 Z.2.2.1 i Z.2.2.2 := by subst hZ; exact flR_t hi h h2
theorem flR_f2 {sg : Nat → Nat} {ln i L st w1 w2 w3 : Nat} {t : TbS} {Z : Bool × Nat × Nat × TbS} (hZ : Z = tkL sg st i t) (hi : i ≤ ln) (h : i = ln ∨ sg i = 10) (h2 : ¬ Z.1 = true) : flR sg ln (ln + 1 - i) L st w1 w2 w3 t = (L, Z.2.1, Z.2.2.1, i, Z.2.2.2) := by subst hZ; exact flR_f hi h h2
theorem flR_ok {sg : Nat → Nat} {ln : Nat} (f : Nat) : ∀ (L st w1 w2 w3 : Nat) (t : TbS), tD t → tD (flR sg ln f L st w1 w2 w3 t).2.2.2.2 ∧ (flR sg ln f L st w1 w2 w3 t).1 ≤ L + f := by
  induction f with
  | zero => intro L st w1 w2 w3 t h; exact ⟨h, Nat.zero_le _⟩
  | succ f ih =>
    intro L st w1 w2 w3 t h
    rw [flR]
    split
    · split
      · have := ih (L + 1) (ln - f + 1) (tkL sg st (ln - f) t).2.1 (tkL sg st (ln - f) t).2.2.1 (ln - f) (tkL sg st (ln - f) t).2.2.2 (tkL_ok h)
        exact ⟨this.1, by omega⟩
      · exact ⟨tkL_ok h, Nat.le_add_right _ _⟩
    · have := ih L st w1 w2 w3 t h
      exact ⟨this.1, by omega⟩
/-- what print writes -/
def rdX (to : Nat → Nat) (f : Nat) : Nat → TxS → TxS
  | 0, t => t
  | j + 1, t => if 0 < to (f * 21 + (j + 1)) then numX (numX (wrdX (addX (rdX to f j t) 32) 1 (sln 1)) (j + 1)) (to (f * 21 + (j + 1))) else rdX to f j t
def hdX (sd pd rk gp : Nat → Nat) (f : Nat) (t : TxS) : TxS := numX (numX (numX (numX (wrdX t 0 (sln 0)) (sd f)) (pd f)) (rk f)) (gp f)
def lnX (sd pd rk gp to : Nat → Nat) (f : Nat) (t : TxS) : TxS := addX (rdX to f 20 (hdX sd pd rk gp f t)) 10
def prX (sd pd rk gp to sg : Nat → Nat) : Nat → TxS
  | 0 => (sg, 0, false)
  | f + 1 => lnX sd pd rk gp to (f + 1) (prX sd pd rk gp to sg f)
theorem hdX_ok {sd pd rk gp : Nat → Nat} {f : Nat} {t : TxS} (h : TxtOK t.1 t.2.1) : TxtOK (hdX sd pd rk gp f t).1 (hdX sd pd rk gp f t).2.1 := numX_ok (numX_ok (numX_ok (numX_ok (wrdX_ok h _))))
theorem rdX_ok {to : Nat → Nat} {f : Nat} {t : TxS} (h : TxtOK t.1 t.2.1) (j : Nat) : TxtOK (rdX to f j t).1 (rdX to f j t).2.1 := by
  induction j with
  | zero => exact h
  | succ j ih =>
    rw [rdX]
    split
    · exact numX_ok (numX_ok (wrdX_ok (addX_ok ih (by omega)) _))
    · exact ih
theorem lnX_ok {sd pd rk gp to : Nat → Nat} {f : Nat} {t : TxS} (h : TxtOK t.1 t.2.1) : TxtOK (lnX sd pd rk gp to f t).1 (lnX sd pd rk gp to f t).2.1 := addX_ok (rdX_ok (hdX_ok h) 20) (by omega)
theorem prX_ok {sd pd rk gp to sg : Nat → Nat} (h : ∀ j, sg j ≤ 255) (f : Nat) : TxtOK (prX sd pd rk gp to sg f).1 (prX sd pd rk gp to sg f).2.1 := by
  induction f with
  | zero => exact ⟨Nat.zero_le _, h⟩
  | succ f ih => exact lnX_ok ih
theorem PRW {W : va_W} {f : Bool → va_W} {b : Bool} (h : ¬ b = true) (e : W = f b) : W = f false := by
  rw [e, Bool.eq_false_iff.mpr h]
end
section
set_option maxHeartbeats 4000000 in
set_option maxRecDepth 100000 in
theorem c_P_takeFrame_o2 (l : Launch) (D : va_G) (cI cC : ClassId) (E : Nat → Nat) (y x b : Nat → Nat) (sg : Nat → Nat) (ln : Nat) (lo : Bool) (ws we le : Nat) (sd pd rk gp of to : Nat → Nat) (n : Nat) (s9 p9 r9 g9 : Nat) (v1 v2 v3 v4 w3 : Nat) (hv1 : v1 = wE sg le we) (hv2 : v2 = wE sg le v1) (hv3 : v3 = wE sg le v2) (hv4 : v4 = wE sg le v3) (hw3 : w3 = wS sg le v3) (Q9 : TbS) (hQ9 : Q9 = (apS (sd, pd, rk, gp, of, to, n) s9 p9 r9 g9)) (hX0 : TxtOK sg ln) (hle : le ≤ ln) (hwe : we ≤ 2000) (hT : TabOK sd pd rk gp of to n) (e1 : nmV sg le we = ((s9 : Nat) : Int)) (e2 : nmV sg le v1 = ((p9 : Nat) : Int)) (e3 : nmV sg le v2 = ((r9 : Nat) : Int)) (e4 : nmV sg le v3 = ((g9 : Nat) : Int)) (hs : 1 ≤ s9 ∧ s9 ≤ 20) (hp : 1 ≤ p9 ∧ p9 ≤ 60) (hq9 : r9 ≤ 99) (hg : g9 ≤ p9) (h40 : n < 40) : CI l D (TY cI cC E) m_P_takeFrame (rmD 3) [.ref (y 0), .ref (b 0)] ((ParW y (x 0) ws we le) ++ (TxtW x cC sg ln lo) ++ (TabW b cI sd pd rk gp of to n)) (bI True) ((ParW y (x 0) w3 v4 le) ++ (TxtW x cC sg ln lo) ++ (TabW b cI Q9.1 Q9.2.1 Q9.2.2.1 Q9.2.2.2.1 Q9.2.2.2.2.1 Q9.2.2.2.2.2.1 Q9.2.2.2.2.2.2)) := by
  subst hQ9
  subst hw3
  subst hv4
  subst hv3
  subst hv2
  subst hv1
  exact c_P_takeFrame_ok l D cI cC E y x b sg ln lo ws we le sd pd rk gp of to n s9 p9 r9 g9 hX0 hle hwe hT e1 e2 e3 e4 hs hp hq9 hg h40
set_option maxHeartbeats 4000000 in
set_option maxRecDepth 100000 in
theorem c_P_takeFrame_b2 (l : Launch) (D : va_G) (cI cC : ClassId) (E : Nat → Nat) (y x b : Nat → Nat) (sg : Nat → Nat) (ln : Nat) (lo : Bool) (ws we le : Nat) (sd pd rk gp of to : Nat → Nat) (n : Nat) (v1 v2 v3 v4 w3 : Nat) (hv1 : v1 = wE sg le we) (hv2 : v2 = wE sg le v1) (hv3 : v3 = wE sg le v2) (hv4 : v4 = wE sg le v3) (hw3 : w3 = wS sg le v3) (hX0 : TxtOK sg ln) (hle : le ≤ ln) (hwe : we ≤ 2000) (hT : TabOK sd pd rk gp of to n) (hbad : ¬ (1 ≤ nmV sg le we ∧ nmV sg le we ≤ 20 ∧ 1 ≤ nmV sg le v1 ∧ nmV sg le v1 ≤ 60 ∧ 0 ≤ nmV sg le v2 ∧ nmV sg le v2 ≤ 99 ∧ 0 ≤ nmV sg le v3 ∧ nmV sg le v3 ≤ nmV sg le v1 ∧ n < 40)) : CI l D (TY cI cC E) m_P_takeFrame (rmD 3) [.ref (y 0), .ref (b 0)] ((ParW y (x 0) ws we le) ++ (TxtW x cC sg ln lo) ++ (TabW b cI sd pd rk gp of to n)) (bI False) ((ParW y (x 0) w3 v4 le) ++ (TxtW x cC sg ln lo) ++ (TabW b cI sd pd rk gp of to n)) := by
  subst hw3
  subst hv4
  subst hv3
  subst hv2
  subst hv1
  exact c_P_takeFrame_bad l D cI cC E y x b sg ln lo ws we le sd pd rk gp of to n hX0 hle hwe hT hbad
set_option maxHeartbeats 4000000 in
set_option maxRecDepth 100000 in
theorem c_P_takeReaders_2 (l : Launch) (D : va_G) (cI cC : ClassId) (E : Nat → Nat) (y x b : Nat → Nat) (sg : Nat → Nat) (ln : Nat) (lo : Bool) (ws we le : Nat) (sd pd rk gp of to : Nat → Nat) (n : Nat) (R9 : Bool × Nat × Nat × (Nat → Nat)) (hR9 : R9 = rdR sg le (sd n) n 2001 ws we to) (hX0 : TxtOK sg ln) (hle : le ≤ ln) (hwe : we ≤ 2000) (hT : TabOK sd pd rk gp of to n) : CI l D (TY cI cC E) m_P_takeReaders (rmD 7) [.ref (y 0), .ref (b 0)] ((ParW y (x 0) ws we le) ++ (TxtW x cC sg ln lo) ++ (TabW b cI sd pd rk gp of to n)) (bI (R9.1 = true)) ((ParW y (x 0) R9.2.1 R9.2.2.1 le) ++ (TxtW x cC sg ln lo) ++ (TabW b cI sd pd rk gp of R9.2.2.2 n)) := by
  subst hR9
  exact c_P_takeReaders l D cI cC E y x b sg ln lo ws we le sd pd rk gp of to n hX0 hle hwe hT
set_option maxHeartbeats 4000000 in
set_option maxRecDepth 100000 in
theorem c_P_takeLine (l : Launch) (D : va_G) (cI cC : ClassId) (E : Nat → Nat) (y x b : Nat → Nat) (sg : Nat → Nat) (ln : Nat) (lo : Bool) (ws we le : Nat) (sd pd rk gp of to : Nat → Nat) (n : Nat) (st en : Nat) (Z9 : Bool × Nat × Nat × TbS) (hX0 : TxtOK sg ln) (hT : TabOK sd pd rk gp of to n) (hst : st ≤ 2000) (hen : en ≤ ln) (hZ9 : Z9 = tkL sg st en (sd, pd, rk, gp, of, to, n)) : CI l D (TY cI cC E) m_P_takeLine (rmD 8) [.ref (y 0), .int (nI st), .int (nI en), .ref (b 0)] ((ParW y (x 0) ws we le) ++ (TxtW x cC sg ln lo) ++ (TabW b cI sd pd rk gp of to n)) (bI (Z9.1 = true)) ((ParW y (x 0) Z9.2.1 Z9.2.2.1 en) ++ (TxtW x cC sg ln lo) ++ (TabW b cI ((Z9.2.2.2).1) ((Z9.2.2.2).2.1) ((Z9.2.2.2).2.2.1) ((Z9.2.2.2).2.2.2.1) ((Z9.2.2.2).2.2.2.2.1) ((Z9.2.2.2).2.2.2.2.2.1) ((Z9.2.2.2).2.2.2.2.2.2))) := by
  obtain ⟨hln, hsg⟩ := id hX0
  obtain ⟨hn, hsd, hpd, hrk, hgp, hof, hto⟩ := id hT
  have hl2 : en ≤ 2000 := by omega
  have z0 := wE_b (sg := sg) hl2 hst
  have z4 := wS_rng sg en st
  have z5 := wE_rng sg en st
  refine CI.of (by decide +kernel) (of_decide_eq_true rfl) ?_
  intro p e s m args below meth c C hr
  refine V.aload_n C (n := 1) (j := 0) d_P_takeLine_0 rfl rfl rfl ?_
  refine V.iload_n C (n := 2) (j := 1) d_P_takeLine_1 rfl rfl rfl ?_
  refine V.put C (n := 5) (q0 := 0) (k0 := 2) (ws' := (ParW y (x 0) ws st le) ++ (TxtW x cC sg ln lo) ++ (TabW b cI sd pd rk gp of to n)) clOk_4 rfl (by decide) rfl rfl fl_P_15 rfl rfl (of_decide_eq_true rfl) rfl d_P_takeLine_2 rfl ?_
  refine V.aload_n C (n := 6) (j := 0) d_P_takeLine_5 rfl rfl rfl ?_
  refine V.iload_n C (n := 7) (j := 2) d_P_takeLine_6 rfl rfl rfl ?_
  refine V.put C (n := 10) (q0 := 0) (k0 := 3) (ws' := (ParW y (x 0) ws st en) ++ (TxtW x cC sg ln lo) ++ (TabW b cI sd pd rk gp of to n)) clOk_4 rfl (by decide) rfl rfl fl_P_18 rfl rfl (of_decide_eq_true rfl) rfl d_P_takeLine_7 rfl ?_
  refine V.aload_n C (n := 11) (j := 0) d_P_takeLine_10 rfl rfl rfl ?_
  refine V.callV_i C (n := 14) (ws' := (ParW y (x 0) (wS sg en st) (wE sg en st) en) ++ (TxtW x cC sg ln lo) ++ (TabW b cI sd pd rk gp of to n)) (c_P_nextWord l D cI cC E (y) (x) (sg) (ln) (lo) (ws) (st) (en) hX0 (by first | omega | assumption) hst) cw_P_44 [0, 1, 2] [3, 4, 5, 6, 7, 8, 9] [7, 8, 9, 0, 1, 2, 3, 4, 5, 6] (qr := 0) rfl rfl rfl (of_decide_eq_true rfl) rfl (of_decide_eq_true rfl) rfl (of_decide_eq_true rfl) rfl (of_decide_eq_true rfl) rfl ⟨rfl, rfl⟩ ⟨by decide, by decide⟩ ⟨by decide, by decide⟩ rfl rfl (of_decide_eq_true rfl) d_P_takeLine_11 rfl ?_
  obtain ⟨v0, hv0⟩ : ∃ v, v = wE sg en st := ⟨_, rfl⟩
  obtain ⟨s0, hs0⟩ : ∃ v, v = wS sg en st := ⟨_, rfl⟩
  rw [← hv0] at z0 z5
  rw [← hs0] at z4 z5
  refine V.wo C (ws' := (ParW y (x 0) s0 v0 en) ++ (TxtW x cC sg ln lo) ++ (TabW b cI sd pd rk gp of to n)) (by rw [hv0, hs0]) ?_
  refine V.cv C (y := bI (s0 < v0)) (by rw [hv0, hs0]) ?_
  refine V.ifb_ne C (tgt := 19) (n := 17) d_P_takeLine_14 (by decide) rfl (fun c14_1 => ?_) (fun c14_1 => ?_)
  · have c14t := c14_1
    refine V.aload_n C (n := 20) (j := 0) d_P_takeLine_19 rfl rfl rfl ?_
    refine V.ldcS C (n := 22) ls_P_48 d_P_takeLine_20 rfl ?_
    refine V.callV_i C (n := 25) (ws' := (ParW y (x 0) s0 v0 en) ++ (TxtW x cC sg ln lo) ++ (TabW b cI sd pd rk gp of to n)) (c_P_wordIs l D cI cC E (y) (x) (sg) (ln) (lo) (s0) (v0) (en) (0) hX0 (by first | omega | assumption) z0 (by decide) z5.1 (by omega)) cw_P_50 [0, 1, 2] [3, 4, 5, 6, 7, 8, 9] [7, 8, 9, 0, 1, 2, 3, 4, 5, 6] (qr := 0) rfl rfl rfl (of_decide_eq_true rfl) rfl (of_decide_eq_true rfl) rfl (of_decide_eq_true rfl) rfl (of_decide_eq_true rfl) rfl ⟨rfl, rfl⟩ ⟨by decide, by decide⟩ ⟨by decide, by decide⟩ rfl rfl (of_decide_eq_true rfl) d_P_takeLine_22 rfl ?_
    refine V.ifb_eq C (tgt := 48) (n := 28) d_P_takeLine_25 (by decide) rfl (fun c25_2 => ?_) (fun c25_2 => ?_)
    · have c25n := c25_2
      refine V.iconst C (v := nI 0) (n := 49) d_P_takeLine_48 (by decide) rfl ?_
      exact V.zret C hr (bI_nar _) d_P_takeLine_49 (by rw [hZ9, tkL_n2 (t := (sd, pd, rk, gp, of, to, n)) hv0 hs0 c14t c25n]; exact bI_0 Bool.false_ne_true) (by rw [hZ9, tkL_n2 (t := (sd, pd, rk, gp, of, to, n)) hv0 hs0 c14t c25n]; try rfl)
    · have c25t := c25_2
      obtain ⟨v1, hv1⟩ : ∃ v, v = wE sg en v0 := ⟨_, rfl⟩
      obtain ⟨v2, hv2⟩ : ∃ v, v = wE sg en v1 := ⟨_, rfl⟩
      obtain ⟨v3, hv3⟩ : ∃ v, v = wE sg en v2 := ⟨_, rfl⟩
      obtain ⟨v4, hv4⟩ : ∃ v, v = wE sg en v3 := ⟨_, rfl⟩
      obtain ⟨w3, hw3⟩ : ∃ v, v = wS sg en v3 := ⟨_, rfl⟩
      have hv1b : v1 ≤ 2000 := by rw [hv1]; exact wE_b hl2 z0
      have hv2b : v2 ≤ 2000 := by rw [hv2]; exact wE_b hl2 hv1b
      have hv3b : v3 ≤ 2000 := by rw [hv3]; exact wE_b hl2 hv2b
      have hv4b : v4 ≤ 2000 := by rw [hv4]; exact wE_b hl2 hv3b
      by_cases hok : (1 ≤ nmV sg en v0 ∧ nmV sg en v0 ≤ 20 ∧ 1 ≤ nmV sg en v1 ∧ nmV sg en v1 ≤ 60 ∧ 0 ≤ nmV sg en v2 ∧ nmV sg en v2 ≤ 99 ∧ 0 ≤ nmV sg en v3 ∧ nmV sg en v3 ≤ nmV sg en v1 ∧ n < 40)
      · obtain ⟨g1, g2, g3, g4, g5, g6, g7, g8, g9'⟩ := id hok
        obtain ⟨s9, e1⟩ := Int.eq_ofNat_of_zero_le (show 0 ≤ nmV sg en v0 by omega)
        obtain ⟨p9, e2⟩ := Int.eq_ofNat_of_zero_le (show 0 ≤ nmV sg en v1 by omega)
        obtain ⟨r9, e3⟩ := Int.eq_ofNat_of_zero_le g5
        obtain ⟨g9, e4⟩ := Int.eq_ofNat_of_zero_le g7
        obtain ⟨Q9, hQ9⟩ : ∃ Q9 : TbS, Q9 = apS (sd, pd, rk, gp, of, to, n) s9 p9 r9 g9 := ⟨_, rfl⟩
        have hA9 : tD Q9 := by rw [hQ9]; exact apS_ok (t := (sd, pd, rk, gp, of, to, n)) hT (by show n < 40; omega) (by omega) (by omega) (by omega) (by omega)
        obtain ⟨R9, hR9⟩ : ∃ R9, R9 = rdR sg en (Q9.1 Q9.2.2.2.2.2.2) Q9.2.2.2.2.2.2 2001 w3 v4 Q9.2.2.2.2.2.1 := ⟨_, rfl⟩
        refine V.aload_n C (n := 29) (j := 0) d_P_takeLine_28 rfl rfl rfl ?_
        refine V.aload_n C (n := 30) (j := 3) d_P_takeLine_29 rfl rfl rfl ?_
        refine V.callV_i C (n := 33) (ws' := (ParW y (x 0) w3 v4 en) ++ (TxtW x cC sg ln lo) ++ (TabW b cI Q9.1 Q9.2.1 Q9.2.2.1 Q9.2.2.2.1 Q9.2.2.2.2.1 Q9.2.2.2.2.2.1 Q9.2.2.2.2.2.2)) (c_P_takeFrame_o2 l D cI cC E (y) (x) (b) (sg) (ln) (lo) (s0) (v0) (en) (sd) (pd) (rk) (gp) (of) (to) (n) (s9) (p9) (r9) (g9) (v1) (v2) (v3) (v4) (w3) hv1 hv2 hv3 hv4 hw3 Q9 hQ9 hX0 hen z0 hT e1 e2 e3 e4 (by omega) (by omega) (by omega) (by omega) (by omega)) cw_P_54 [0, 1, 2, 3, 4, 5, 6, 7, 8, 9] [] [0, 1, 2, 3, 4, 5, 6, 7, 8, 9] (qr := 0) rfl rfl rfl (of_decide_eq_true rfl) rfl (of_decide_eq_true rfl) rfl (of_decide_eq_true rfl) rfl (of_decide_eq_true rfl) rfl ⟨rfl, rfl⟩ ⟨by decide, by decide⟩ ⟨by decide, by decide⟩ rfl rfl (of_decide_eq_true rfl) d_P_takeLine_30 rfl ?_
        refine V.ifb_eq C (tgt := 48) (n := 36) d_P_takeLine_33 (by decide) rfl (fun c33_3 => ?_) (fun c33_3 => ?_)
        · exact absurd trivial c33_3
        · refine V.aload_n C (n := 37) (j := 0) d_P_takeLine_36 rfl rfl rfl ?_
          refine V.aload_n C (n := 38) (j := 3) d_P_takeLine_37 rfl rfl rfl ?_
          refine V.callV_i C (n := 41) (ws' := (ParW y (x 0) R9.2.1 R9.2.2.1 en) ++ (TxtW x cC sg ln lo) ++ (TabW b cI Q9.1 Q9.2.1 Q9.2.2.1 Q9.2.2.2.1 Q9.2.2.2.2.1 R9.2.2.2 Q9.2.2.2.2.2.2)) (c_P_takeReaders_2 l D cI cC E (y) (x) (b) (sg) (ln) (lo) (w3) (v4) (en) (Q9.1) (Q9.2.1) (Q9.2.2.1) (Q9.2.2.2.1) (Q9.2.2.2.2.1) (Q9.2.2.2.2.2.1) (Q9.2.2.2.2.2.2) (R9) hR9 hX0 hen hv4b hA9) cw_P_58 [0, 1, 2, 3, 4, 5, 6, 7, 8, 9] [] [0, 1, 2, 3, 4, 5, 6, 7, 8, 9] (qr := 0) rfl rfl rfl (of_decide_eq_true rfl) rfl (of_decide_eq_true rfl) rfl (of_decide_eq_true rfl) rfl (of_decide_eq_true rfl) rfl ⟨rfl, rfl⟩ ⟨by decide, by decide⟩ ⟨by decide, by decide⟩ rfl rfl (of_decide_eq_true rfl) d_P_takeLine_38 rfl ?_
          refine V.ifb_eq C (tgt := 48) (n := 44) d_P_takeLine_41 (by decide) rfl (fun c41_4 => ?_) (fun c41_4 => ?_)
          · have hrd := c41_4
            refine V.iconst C (v := nI 0) (n := 49) d_P_takeLine_48 (by decide) rfl ?_
            exact V.zret C hr (bI_nar _) d_P_takeLine_49 (by rw [hZ9, tkL_o2 hv0 hs0 hv1 hv2 hv3 hv4 hw3 c14t c25t hok e1 e2 e3 e4 hQ9 hR9]; exact bI_0 hrd) (by rw [hZ9, tkL_o2 hv0 hs0 hv1 hv2 hv3 hv4 hw3 c14t c25t hok e1 e2 e3 e4 hQ9 hR9]; try rfl)
          · have hrd := c41_4
            refine V.iconst C (v := nI 1) (n := 45) d_P_takeLine_44 (by decide) rfl ?_
            refine V.goto C (n := 49) d_P_takeLine_45 (by decide) ?_
            exact V.zret C hr (bI_nar _) d_P_takeLine_49 (by rw [hZ9, tkL_o2 hv0 hs0 hv1 hv2 hv3 hv4 hw3 c14t c25t hok e1 e2 e3 e4 hQ9 hR9]; exact bI_1 hrd) (by rw [hZ9, tkL_o2 hv0 hs0 hv1 hv2 hv3 hv4 hw3 c14t c25t hok e1 e2 e3 e4 hQ9 hR9]; try rfl)
      · refine V.aload_n C (n := 29) (j := 0) d_P_takeLine_28 rfl rfl rfl ?_
        refine V.aload_n C (n := 30) (j := 3) d_P_takeLine_29 rfl rfl rfl ?_
        refine V.callV_i C (n := 33) (ws' := (ParW y (x 0) w3 v4 en) ++ (TxtW x cC sg ln lo) ++ (TabW b cI sd pd rk gp of to n)) (c_P_takeFrame_b2 l D cI cC E (y) (x) (b) (sg) (ln) (lo) (s0) (v0) (en) (sd) (pd) (rk) (gp) (of) (to) (n) (v1) (v2) (v3) (v4) (w3) hv1 hv2 hv3 hv4 hw3 hX0 hen z0 hT hok) cw_P_54 [0, 1, 2, 3, 4, 5, 6, 7, 8, 9] [] [0, 1, 2, 3, 4, 5, 6, 7, 8, 9] (qr := 0) rfl rfl rfl (of_decide_eq_true rfl) rfl (of_decide_eq_true rfl) rfl (of_decide_eq_true rfl) rfl (of_decide_eq_true rfl) rfl ⟨rfl, rfl⟩ ⟨by decide, by decide⟩ ⟨by decide, by decide⟩ rfl rfl (of_decide_eq_true rfl) d_P_takeLine_30 rfl ?_
        refine V.ifb_eq C (tgt := 48) (n := 36) d_P_takeLine_33 (by decide) rfl (fun c33_5 => ?_) (fun c33_5 => ?_)
        · refine V.iconst C (v := nI 0) (n := 49) d_P_takeLine_48 (by decide) rfl ?_
          exact V.zret C hr (bI_nar _) d_P_takeLine_49 (by rw [hZ9, tkL_b2 (t := (sd, pd, rk, gp, of, to, n)) hv0 hs0 hv1 hv2 hv3 hv4 hw3 c14t c25t hok]; exact bI_0 Bool.false_ne_true) (by rw [hZ9, tkL_b2 (t := (sd, pd, rk, gp, of, to, n)) hv0 hs0 hv1 hv2 hv3 hv4 hw3 c14t c25t hok]; try rfl)
        · exact c33_5.elim
  · have c14n := c14_1
    refine V.iconst C (v := nI 1) (n := 18) d_P_takeLine_17 (by decide) rfl ?_
    exact V.zret C hr (bI_nar _) d_P_takeLine_18 (by rw [hZ9, tkL_e2 (t := (sd, pd, rk, gp, of, to, n)) hv0 hs0 c14n]; exact bI_1 rfl) (by rw [hZ9, tkL_e2 (t := (sd, pd, rk, gp, of, to, n)) hv0 hs0 c14n]; try rfl)
end
section
set_option maxHeartbeats 4000000 in
set_option maxRecDepth 100000 in
theorem c_P_fill (l : Launch) (D : va_G) (cI cC : ClassId) (E : Nat → Nat) (y x b : Nat → Nat) (sg : Nat → Nat) (ln : Nat) (lo : Bool) (ws we le : Nat) (sd pd rk gp of to : Nat → Nat) (n : Nat) (Y9 : Nat × Nat × Nat × Nat × TbS) (hX0 : TxtOK sg ln) (hT : TabOK sd pd rk gp of to n) (hY9 : Y9 = flR sg ln (ln + 1) 1 0 ws we le (sd, pd, rk, gp, of, to, 0)) : CI l D (TY cI cC E) m_P_fill (rmD 9) [.ref (y 0), .ref (b 0)] ((ParW y (x 0) ws we le) ++ (TxtW x cC sg ln lo) ++ (TabW b cI sd pd rk gp of to n)) (nI (Y9.1)) ((ParW y (x 0) Y9.2.1 Y9.2.2.1 Y9.2.2.2.1) ++ (TxtW x cC sg ln lo) ++ (TabW b cI ((Y9.2.2.2.2).1) ((Y9.2.2.2.2).2.1) ((Y9.2.2.2.2).2.2.1) ((Y9.2.2.2.2).2.2.2.1) ((Y9.2.2.2.2).2.2.2.2.1) ((Y9.2.2.2.2).2.2.2.2.2.1) ((Y9.2.2.2.2).2.2.2.2.2.2))) := by
  obtain ⟨hln, hsg⟩ := id hX0
  obtain ⟨hn, hsd, hpd, hrk, hgp, hof, hto⟩ := id hT
  refine CI.of (by decide +kernel) (of_decide_eq_true rfl) ?_
  intro p e s m args below meth c C hr
  refine V.aload_n C (n := 1) (j := 1) d_P_fill_0 rfl rfl rfl ?_
  refine V.callV_v C (n := 4) (ws2 := fun _ => (ParW y (x 0) ws we le) ++ (TxtW x cC sg ln lo) ++ (TabW b cI sd pd rk gp of to 0)) (c_T_clear l D cI cC E (b) (sd) (pd) (rk) (gp) (of) (to) (n) hT) cw_P_25 [3, 4, 5, 6, 7, 8, 9] [0, 1, 2] [0, 1, 2, 3, 4, 5, 6, 7, 8, 9] (qr := 0) rfl rfl rfl (of_decide_eq_true rfl) rfl (of_decide_eq_true rfl) rfl (of_decide_eq_true rfl) (fun _ => rfl) (fun _ => of_decide_eq_true rfl) rfl ⟨rfl, rfl⟩ ⟨by decide, by decide⟩ ⟨by decide, by decide⟩ rfl rfl (of_decide_eq_true rfl) d_P_fill_1 rfl (fun _ _ => ?_)
  refine V.iconst C (v := nI 1) (n := 5) d_P_fill_4 (by decide) rfl ?_
  refine V.istore_n C (n := 6) (lv' := [(0, .ref (y 0)), (1, .ref (b 0)), (2, .int (nI 1))]) [1, 2, 0] d_P_fill_5 rfl (by decide) rfl rfl ?_
  refine V.iconst C (v := nI 0) (n := 7) d_P_fill_6 (by decide) rfl ?_
  refine V.istore_n C (n := 8) (lv' := [(0, .ref (y 0)), (1, .ref (b 0)), (2, .int (nI 1)), (3, .int (nI 0))]) [1, 2, 3, 0] d_P_fill_7 rfl (by decide) rfl rfl ?_
  refine V.iconst C (v := nI 0) (n := 9) d_P_fill_8 (by decide) rfl ?_
  refine V.istore C (n := 11) (lv' := [(0, .ref (y 0)), (1, .ref (b 0)), (2, .int (nI 1)), (3, .int (nI 0)), (4, .int (nI 0))]) [1, 2, 3, 4, 0] d_P_fill_9 (by decide) rfl rfl ?_
  refine V.ind7 C (fun (i : Nat) (L : Nat) (st : Nat) (w1 : Nat) (w2 : Nat) (w3 : Nat) (T : TbS) => (ParW y (x 0) w1 w2 w3) ++ (TxtW x cC sg ln lo) ++ (TabW b cI T.1 T.2.1 T.2.2.1 T.2.2.2.1 T.2.2.2.2.1 T.2.2.2.2.2.1 T.2.2.2.2.2.2)) (fun (i : Nat) (L : Nat) (st : Nat) (w1 : Nat) (w2 : Nat) (w3 : Nat) (T : TbS) => [(0, .ref (y 0)), (1, .ref (b 0)), (2, .int (nI L)), (3, .int (nI st)), (4, .int (nI i))]) (fun (i : Nat) (L : Nat) (st : Nat) (w1 : Nat) (w2 : Nat) (w3 : Nat) (T : TbS) => (i ≤ ln + 1) ∧ (st ≤ i) ∧ (L ≤ i + 1) ∧ (flR sg ln (ln + 1 - i) L st w1 w2 w3 T = Y9) ∧ (tD T)) (fun (i : Nat) (L : Nat) (st : Nat) (w1 : Nat) (w2 : Nat) (w3 : Nat) (T : TbS) => ln + 1 - i) (0) (1) (0) (ws) (we) (le) ((sd, pd, rk, gp, of, to, 0)) ⟨by omega, by omega, by omega, hY9.symm, ⟨Nat.zero_le _, hsd, hpd, hrk, hgp, hof, hto⟩⟩ rfl rfl ?_
  rintro i L st w1 w2 w3 T ⟨hi, hst, hL, hq, hTT⟩ ih11
  try dsimp only
  refine V.iload C (n := 13) (j := 4) d_P_fill_11 rfl rfl ?_
  refine V.aload_n C (n := 14) (j := 0) d_P_fill_13 rfl rfl rfl ?_
  refine V.get C (n := 17) (q0 := 0) (k0 := 0) clOk_4 rfl (by decide) rfl fl_P_21 rfl d_P_fill_14 rfl ?_
  refine V.callV_i C (n := 20) (ws' := (ParW y (x 0) w1 w2 w3) ++ (TxtW x cC sg ln lo) ++ (TabW b cI T.1 T.2.1 T.2.2.1 T.2.2.2.1 T.2.2.2.2.1 T.2.2.2.2.2.1 T.2.2.2.2.2.2)) (c_X_length l D cI cC E (x) (sg) (ln) (lo) hX0) cw_P_30 [1, 2] [0, 3, 4, 5, 6, 7, 8, 9] [0, 8, 9, 1, 2, 3, 4, 5, 6, 7] (qr := 0) rfl rfl rfl (of_decide_eq_true rfl) rfl (of_decide_eq_true rfl) rfl (of_decide_eq_true rfl) rfl (of_decide_eq_true rfl) rfl ⟨rfl, rfl⟩ ⟨by decide, by decide⟩ ⟨by decide, by decide⟩ rfl rfl (of_decide_eq_true rfl) d_P_fill_17 rfl ?_
  refine V.icmpn_gt C (tgt := 76) (n := 23) (by omega) (by omega) d_P_fill_20 (by decide) rfl (fun c20_1 => ?_) (fun c20_1 => ?_)
  · refine V.iconst C (v := nI 0) (n := 77) d_P_fill_76 (by decide) rfl ?_
    exact V.iret C hr d_P_fill_77 (by rw [← hq, flR_0 (by omega)]) (by rw [← hq, flR_0 (by omega)]; try rfl)
  · refine V.iload C (n := 25) (j := 4) d_P_fill_23 rfl rfl ?_
    refine V.aload_n C (n := 26) (j := 0) d_P_fill_25 rfl rfl rfl ?_
    refine V.get C (n := 29) (q0 := 0) (k0 := 0) clOk_4 rfl (by decide) rfl fl_P_21 rfl d_P_fill_26 rfl ?_
    refine V.callV_i C (n := 32) (ws' := (ParW y (x 0) w1 w2 w3) ++ (TxtW x cC sg ln lo) ++ (TabW b cI T.1 T.2.1 T.2.2.1 T.2.2.2.1 T.2.2.2.2.1 T.2.2.2.2.2.1 T.2.2.2.2.2.2)) (c_X_length l D cI cC E (x) (sg) (ln) (lo) hX0) cw_P_30 [1, 2] [0, 3, 4, 5, 6, 7, 8, 9] [0, 8, 9, 1, 2, 3, 4, 5, 6, 7] (qr := 0) rfl rfl rfl (of_decide_eq_true rfl) rfl (of_decide_eq_true rfl) rfl (of_decide_eq_true rfl) rfl (of_decide_eq_true rfl) rfl ⟨rfl, rfl⟩ ⟨by decide, by decide⟩ ⟨by decide, by decide⟩ rfl rfl (of_decide_eq_true rfl) d_P_fill_29 rfl ?_
    refine V.icmpn_eq C (tgt := 49) (n := 35) (by omega) (by omega) d_P_fill_32 (by decide) rfl (fun c32_2 => ?_) (fun c32_2 => ?_)
    · refine V.aload_n C (n := 50) (j := 0) d_P_fill_49 rfl rfl rfl ?_
      refine V.iload_n C (n := 51) (j := 3) d_P_fill_50 rfl rfl rfl ?_
      refine V.iload C (n := 53) (j := 4) d_P_fill_51 rfl rfl ?_
      refine V.aload_n C (n := 54) (j := 1) d_P_fill_53 rfl rfl rfl ?_
      obtain ⟨Z9, hZ9⟩ : ∃ Z9, Z9 = tkL sg st i T := ⟨_, rfl⟩
      refine V.callV_i C (n := 57) (ws' := (ParW y (x 0) Z9.2.1 Z9.2.2.1 i) ++ (TxtW x cC sg ln lo) ++ (TabW b cI ((Z9.2.2.2).1) ((Z9.2.2.2).2.1) ((Z9.2.2.2).2.2.1) ((Z9.2.2.2).2.2.2.1) ((Z9.2.2.2).2.2.2.2.1) ((Z9.2.2.2).2.2.2.2.2.1) ((Z9.2.2.2).2.2.2.2.2.2))) (c_P_takeLine l D cI cC E (y) (x) (b) (sg) (ln) (lo) (w1) (w2) (w3) (T.1) (T.2.1) (T.2.2.1) (T.2.2.2.1) (T.2.2.2.2.1) (T.2.2.2.2.2.1) (T.2.2.2.2.2.2) (st) (i) (Z9) hX0 hTT (by omega) (by omega) hZ9) cw_P_40 [0, 1, 2, 3, 4, 5, 6, 7, 8, 9] [] [0, 1, 2, 3, 4, 5, 6, 7, 8, 9] (qr := 0) rfl rfl rfl (of_decide_eq_true rfl) rfl (of_decide_eq_true rfl) rfl (of_decide_eq_true rfl) rfl (of_decide_eq_true rfl) rfl ⟨rfl, rfl⟩ ⟨by decide, by decide⟩ ⟨by decide, by decide⟩ rfl rfl (of_decide_eq_true rfl) d_P_fill_54 rfl ?_
      refine V.ifb_ne C (tgt := 62) (n := 60) d_P_fill_57 (by decide) rfl (fun c57_3 => ?_) (fun c57_3 => ?_)
      · have hz57 := c57_3
        refine V.iinc C (n := 65) (j := 2) (v := nI (L + 1)) (lv' := [(0, .ref (y 0)), (1, .ref (b 0)), (2, .int (nI (L + 1))), (3, .int (nI st)), (4, .int (nI i))]) [1, 2, 0, 3, 4] d_P_fill_62 rfl (nI_inc (L) 1) (by decide) rfl rfl ?_
        refine V.iload C (n := 67) (j := 4) d_P_fill_65 rfl rfl ?_
        refine V.iconst C (v := nI 1) (n := 68) d_P_fill_67 (by decide) rfl ?_
        refine V.iadd_n C (n := 69) d_P_fill_68 rfl ?_
        refine V.istore_n C (n := 70) (lv' := [(0, .ref (y 0)), (1, .ref (b 0)), (2, .int (nI (L + 1))), (3, .int (nI (i + 1))), (4, .int (nI i))]) [1, 2, 3, 0, 4] d_P_fill_69 rfl (by decide) rfl rfl ?_
        refine V.iinc C (n := 73) (j := 4) (v := nI (i + 1)) (lv' := [(0, .ref (y 0)), (1, .ref (b 0)), (2, .int (nI (L + 1))), (3, .int (nI (i + 1))), (4, .int (nI (i + 1)))]) [1, 2, 3, 4, 0] d_P_fill_70 rfl (nI_inc (i) 1) (by decide) rfl rfl ?_
        refine V.goto C (n := 11) d_P_fill_73 (by decide) ?_
        exact ih11 (i + 1) (L + 1) (i + 1) (Z9.2.1) (Z9.2.2.1) (i) (Z9.2.2.2) ⟨by omega, by omega, by omega, by rw [← hq]; exact (flR_t2 hZ9 (by omega) (by omega) hz57).symm, by rw [hZ9]; exact tkL_ok hTT⟩ (by omega)
      · have hz57 := c57_3
        refine V.iload_n C (n := 61) (j := 2) d_P_fill_60 rfl rfl rfl ?_
        exact V.iret C hr d_P_fill_61 (by rw [← hq, flR_f2 hZ9 (by omega) (by omega) hz57]) (by rw [← hq, flR_f2 hZ9 (by omega) (by omega) hz57]; try rfl)
    · refine V.aload_n C (n := 36) (j := 0) d_P_fill_35 rfl rfl rfl ?_
      refine V.get C (n := 39) (q0 := 0) (k0 := 0) clOk_4 rfl (by decide) rfl fl_P_21 rfl d_P_fill_36 rfl ?_
      refine V.iload C (n := 41) (j := 4) d_P_fill_39 rfl rfl ?_
      refine V.callV_i C (n := 44) (ws' := (ParW y (x 0) w1 w2 w3) ++ (TxtW x cC sg ln lo) ++ (TabW b cI T.1 T.2.1 T.2.2.1 T.2.2.2.1 T.2.2.2.2.1 T.2.2.2.2.2.1 T.2.2.2.2.2.2)) (c_X_signAt_in l D cI cC E (x) (sg) (ln) (lo) (i) hX0 (by first | omega | assumption)) cw_P_36 [1, 2] [0, 3, 4, 5, 6, 7, 8, 9] [0, 8, 9, 1, 2, 3, 4, 5, 6, 7] (qr := 0) rfl rfl rfl (of_decide_eq_true rfl) rfl (of_decide_eq_true rfl) rfl (of_decide_eq_true rfl) rfl (of_decide_eq_true rfl) rfl ⟨rfl, rfl⟩ ⟨by decide, by decide⟩ ⟨by decide, by decide⟩ rfl rfl (of_decide_eq_true rfl) d_P_fill_41 rfl ?_
      have b_1 := hsg (i)
      refine V.bipush C (v := nI 10) (n := 46) d_P_fill_44 (by decide) rfl ?_
      refine V.icmpn_ne C (tgt := 70) (n := 49) (by omega) (by omega) d_P_fill_46 (by decide) rfl (fun c46_4 => ?_) (fun c46_4 => ?_)
      · refine V.iinc C (n := 73) (j := 4) (v := nI (i + 1)) (lv' := [(0, .ref (y 0)), (1, .ref (b 0)), (2, .int (nI L)), (3, .int (nI st)), (4, .int (nI (i + 1)))]) [1, 2, 3, 4, 0] d_P_fill_70 rfl (nI_inc (i) 1) (by decide) rfl rfl ?_
        refine V.goto C (n := 11) d_P_fill_73 (by decide) ?_
        exact ih11 (i + 1) (L) (st) (w1) (w2) (w3) (T) ⟨by omega, by omega, by omega, by rw [← hq]; exact (flR_n (by omega) (by omega)).symm, hTT⟩ (by omega)
      · refine V.aload_n C (n := 50) (j := 0) d_P_fill_49 rfl rfl rfl ?_
        refine V.iload_n C (n := 51) (j := 3) d_P_fill_50 rfl rfl rfl ?_
        refine V.iload C (n := 53) (j := 4) d_P_fill_51 rfl rfl ?_
        refine V.aload_n C (n := 54) (j := 1) d_P_fill_53 rfl rfl rfl ?_
        obtain ⟨Z9, hZ9⟩ : ∃ Z9, Z9 = tkL sg st i T := ⟨_, rfl⟩
        refine V.callV_i C (n := 57) (ws' := (ParW y (x 0) Z9.2.1 Z9.2.2.1 i) ++ (TxtW x cC sg ln lo) ++ (TabW b cI ((Z9.2.2.2).1) ((Z9.2.2.2).2.1) ((Z9.2.2.2).2.2.1) ((Z9.2.2.2).2.2.2.1) ((Z9.2.2.2).2.2.2.2.1) ((Z9.2.2.2).2.2.2.2.2.1) ((Z9.2.2.2).2.2.2.2.2.2))) (c_P_takeLine l D cI cC E (y) (x) (b) (sg) (ln) (lo) (w1) (w2) (w3) (T.1) (T.2.1) (T.2.2.1) (T.2.2.2.1) (T.2.2.2.2.1) (T.2.2.2.2.2.1) (T.2.2.2.2.2.2) (st) (i) (Z9) hX0 hTT (by omega) (by omega) hZ9) cw_P_40 [0, 1, 2, 3, 4, 5, 6, 7, 8, 9] [] [0, 1, 2, 3, 4, 5, 6, 7, 8, 9] (qr := 0) rfl rfl rfl (of_decide_eq_true rfl) rfl (of_decide_eq_true rfl) rfl (of_decide_eq_true rfl) rfl (of_decide_eq_true rfl) rfl ⟨rfl, rfl⟩ ⟨by decide, by decide⟩ ⟨by decide, by decide⟩ rfl rfl (of_decide_eq_true rfl) d_P_fill_54 rfl ?_
        refine V.ifb_ne C (tgt := 62) (n := 60) d_P_fill_57 (by decide) rfl (fun c57_5 => ?_) (fun c57_5 => ?_)
        · have hz57 := c57_5
          refine V.iinc C (n := 65) (j := 2) (v := nI (L + 1)) (lv' := [(0, .ref (y 0)), (1, .ref (b 0)), (2, .int (nI (L + 1))), (3, .int (nI st)), (4, .int (nI i))]) [1, 2, 0, 3, 4] d_P_fill_62 rfl (nI_inc (L) 1) (by decide) rfl rfl ?_
          refine V.iload C (n := 67) (j := 4) d_P_fill_65 rfl rfl ?_
          refine V.iconst C (v := nI 1) (n := 68) d_P_fill_67 (by decide) rfl ?_
          refine V.iadd_n C (n := 69) d_P_fill_68 rfl ?_
          refine V.istore_n C (n := 70) (lv' := [(0, .ref (y 0)), (1, .ref (b 0)), (2, .int (nI (L + 1))), (3, .int (nI (i + 1))), (4, .int (nI i))]) [1, 2, 3, 0, 4] d_P_fill_69 rfl (by decide) rfl rfl ?_
          refine V.iinc C (n := 73) (j := 4) (v := nI (i + 1)) (lv' := [(0, .ref (y 0)), (1, .ref (b 0)), (2, .int (nI (L + 1))), (3, .int (nI (i + 1))), (4, .int (nI (i + 1)))]) [1, 2, 3, 4, 0] d_P_fill_70 rfl (nI_inc (i) 1) (by decide) rfl rfl ?_
          refine V.goto C (n := 11) d_P_fill_73 (by decide) ?_
          exact ih11 (i + 1) (L + 1) (i + 1) (Z9.2.1) (Z9.2.2.1) (i) (Z9.2.2.2) ⟨by omega, by omega, by omega, by rw [← hq]; exact (flR_t2 hZ9 (by omega) (by omega) hz57).symm, by rw [hZ9]; exact tkL_ok hTT⟩ (by omega)
        · have hz57 := c57_5
          refine V.iload_n C (n := 61) (j := 2) d_P_fill_60 rfl rfl rfl ?_
          exact V.iret C hr d_P_fill_61 (by rw [← hq, flR_f2 hZ9 (by omega) (by omega) hz57]) (by rw [← hq, flR_f2 hZ9 (by omega) (by omega) hz57]; try rfl)
end
section
set_option maxHeartbeats 4000000 in
set_option maxRecDepth 100000 in
theorem c_F_read_bad (l : Launch) (D : va_G) (cI cC : ClassId) (E : Nat → Nat) (o b x y : Nat → Nat) (ta sp se : Nat) (ex : Bool) (sg : Nat → Nat) (ln : Nat) (lo : Bool) (ws we le : Nat) (sd pd rk gp of to : Nat → Nat) (n : Nat) (Y9 : Nat × Nat × Nat × Nat × TbS) (hX0 : TxtOK sg ln) (hT : TabOK sd pd rk gp of to n) (hY9 : Y9 = flR sg ln (ln + 1) 1 0 ws we le (sd, pd, rk, gp, of, to, 0)) (hbad : 0 < Y9.1) : CI l D (TY cI cC E) m_F_read (rmD 10) [.ref (o 0)] ((FtW o ta (b 0) sp (x 0) (y 0) se ex) ++ (TabW b cI sd pd rk gp of to n) ++ (TxtW x cC sg ln lo) ++ (ParW y (x 0) ws we le)) (iI (-(((Y9.1 : Nat) : Int)))) ((FtW o ta (b 0) sp (x 0) (y 0) se ex) ++ (TabW b cI ((Y9.2.2.2.2).1) ((Y9.2.2.2.2).2.1) ((Y9.2.2.2.2).2.2.1) ((Y9.2.2.2.2).2.2.2.1) ((Y9.2.2.2.2).2.2.2.2.1) ((Y9.2.2.2.2).2.2.2.2.2.1) ((Y9.2.2.2.2).2.2.2.2.2.2)) ++ (TxtW x cC sg 0 false) ++ (ParW y (x 0) Y9.2.1 Y9.2.2.1 Y9.2.2.2.1)) := by
  obtain ⟨hln, hsg⟩ := id hX0
  obtain ⟨hn, hsd, hpd, hrk, hgp, hof, hto⟩ := id hT
  have hfl := flR_ok (sg := sg) (ln := ln) (ln + 1) 1 0 ws we le (sd, pd, rk, gp, of, to, 0) ⟨Nat.zero_le _, hsd, hpd, hrk, hgp, hof, hto⟩
  rw [← hY9] at hfl
  refine CI.of (by decide +kernel) (of_decide_eq_true rfl) ?_
  intro p e s m args below meth c C hr
  refine V.aload_n C (n := 1) (j := 0) d_F_read_0 rfl rfl rfl ?_
  refine V.get C (n := 4) (q0 := 0) (k0 := 4) clOk_0 rfl (by decide) rfl fl_F_38 rfl d_F_read_1 rfl ?_
  refine V.aload_n C (n := 5) (j := 0) d_F_read_4 rfl rfl rfl ?_
  refine V.get C (n := 8) (q0 := 0) (k0 := 1) clOk_0 rfl (by decide) rfl fl_F_16 rfl d_F_read_5 rfl ?_
  refine V.callV_i C (n := 11) (ws' := (FtW o ta (b 0) sp (x 0) (y 0) se ex) ++ (TabW b cI ((Y9.2.2.2.2).1) ((Y9.2.2.2.2).2.1) ((Y9.2.2.2.2).2.2.1) ((Y9.2.2.2.2).2.2.2.1) ((Y9.2.2.2.2).2.2.2.2.1) ((Y9.2.2.2.2).2.2.2.2.2.1) ((Y9.2.2.2.2).2.2.2.2.2.2)) ++ (TxtW x cC sg ln lo) ++ (ParW y (x 0) Y9.2.1 Y9.2.2.1 Y9.2.2.2.1)) (c_P_fill l D cI cC E (y) (x) (b) (sg) (ln) (lo) (ws) (we) (le) (sd) (pd) (rk) (gp) (of) (to) (n) (Y9) hX0 hT hY9) cw_F_139 [10, 8, 9, 1, 2, 3, 4, 5, 6, 7] [0] [0, 4, 5, 6, 7, 8, 9, 10, 2, 3, 1] (qr := 0) rfl rfl rfl (of_decide_eq_true rfl) rfl (of_decide_eq_true rfl) rfl (of_decide_eq_true rfl) rfl (of_decide_eq_true rfl) rfl ⟨rfl, rfl⟩ ⟨by decide, by decide⟩ ⟨by decide, by decide⟩ rfl rfl (of_decide_eq_true rfl) d_F_read_8 rfl ?_
  refine V.istore_n C (n := 12) (lv' := [(0, .ref (o 0)), (1, .int (nI (Y9.1)))]) [1, 0] d_F_read_11 rfl (by decide) rfl rfl ?_
  refine V.aload_n C (n := 13) (j := 0) d_F_read_12 rfl rfl rfl ?_
  refine V.get C (n := 16) (q0 := 0) (k0 := 3) clOk_0 rfl (by decide) rfl fl_F_29 rfl d_F_read_13 rfl ?_
  refine V.callV_v C (n := 19) (ws2 := fun _ => (FtW o ta (b 0) sp (x 0) (y 0) se ex) ++ (TabW b cI ((Y9.2.2.2.2).1) ((Y9.2.2.2.2).2.1) ((Y9.2.2.2.2).2.2.1) ((Y9.2.2.2.2).2.2.2.1) ((Y9.2.2.2.2).2.2.2.2.1) ((Y9.2.2.2.2).2.2.2.2.2.1) ((Y9.2.2.2.2).2.2.2.2.2.2)) ++ (TxtW x cC sg 0 false) ++ (ParW y (x 0) Y9.2.1 Y9.2.2.1 Y9.2.2.2.1)) (c_X_clear l D cI cC E (x) (sg) (ln) (lo) hX0) cw_F_142 [8, 9] [0, 1, 2, 3, 4, 5, 6, 7, 10] [0, 1, 2, 3, 4, 5, 6, 7, 9, 10, 8] (qr := 0) rfl rfl rfl (of_decide_eq_true rfl) rfl (of_decide_eq_true rfl) rfl (of_decide_eq_true rfl) (fun _ => rfl) (fun _ => of_decide_eq_true rfl) rfl ⟨rfl, rfl⟩ ⟨by decide, by decide⟩ ⟨by decide, by decide⟩ rfl rfl (of_decide_eq_true rfl) d_F_read_16 rfl (fun _ _ => ?_)
  refine V.iload_n C (n := 20) (j := 1) d_F_read_19 rfl rfl rfl ?_
  refine V.ifn_le C (tgt := 26) (n := 23) (by omega) d_F_read_20 (by decide) rfl (fun c20_1 => ?_) (fun c20_1 => ?_)
  · exfalso; omega
  · refine V.iload_n C (n := 24) (j := 1) d_F_read_23 rfl rfl rfl ?_
    refine V.ineg_z C (n := 25) d_F_read_24 (nI_iI (Y9.1)) rfl ?_
    exact V.iret C hr d_F_read_25 (rfl) (rfl)
set_option maxHeartbeats 4000000 in
set_option maxRecDepth 100000 in
theorem c_F_read_ok (l : Launch) (D : va_G) (cI cC : ClassId) (E : Nat → Nat) (o b x y : Nat → Nat) (ta sp se : Nat) (ex : Bool) (sg : Nat → Nat) (ln : Nat) (lo : Bool) (ws we le : Nat) (sd pd rk gp of to : Nat → Nat) (n : Nat) (Y9 : Nat × Nat × Nat × Nat × TbS) (hX0 : TxtOK sg ln) (hT : TabOK sd pd rk gp of to n) (hY9 : Y9 = flR sg ln (ln + 1) 1 0 ws we le (sd, pd, rk, gp, of, to, 0)) (hok : Y9.1 = 0) : CI l D (TY cI cC E) m_F_read (rmD 10) [.ref (o 0)] ((FtW o ta (b 0) sp (x 0) (y 0) se ex) ++ (TabW b cI sd pd rk gp of to n) ++ (TxtW x cC sg ln lo) ++ (ParW y (x 0) ws we le)) (nI (Y9.2.2.2.2.2.2.2.2.2.2)) ((FtW o (b 0) ta sp (x 0) (y 0) se false) ++ (TabW b cI ((Y9.2.2.2.2).1) ((Y9.2.2.2.2).2.1) ((Y9.2.2.2.2).2.2.1) ((Y9.2.2.2.2).2.2.2.1) ((Y9.2.2.2.2).2.2.2.2.1) ((Y9.2.2.2.2).2.2.2.2.2.1) ((Y9.2.2.2.2).2.2.2.2.2.2)) ++ (TxtW x cC sg 0 false) ++ (ParW y (x 0) Y9.2.1 Y9.2.2.1 Y9.2.2.2.1)) := by
  obtain ⟨hln, hsg⟩ := id hX0
  obtain ⟨hn, hsd, hpd, hrk, hgp, hof, hto⟩ := id hT
  have hfl := flR_ok (sg := sg) (ln := ln) (ln + 1) 1 0 ws we le (sd, pd, rk, gp, of, to, 0) ⟨Nat.zero_le _, hsd, hpd, hrk, hgp, hof, hto⟩
  rw [← hY9] at hfl
  refine CI.of (by decide +kernel) (of_decide_eq_true rfl) ?_
  intro p e s m args below meth c C hr
  refine V.aload_n C (n := 1) (j := 0) d_F_read_0 rfl rfl rfl ?_
  refine V.get C (n := 4) (q0 := 0) (k0 := 4) clOk_0 rfl (by decide) rfl fl_F_38 rfl d_F_read_1 rfl ?_
  refine V.aload_n C (n := 5) (j := 0) d_F_read_4 rfl rfl rfl ?_
  refine V.get C (n := 8) (q0 := 0) (k0 := 1) clOk_0 rfl (by decide) rfl fl_F_16 rfl d_F_read_5 rfl ?_
  refine V.callV_i C (n := 11) (ws' := (FtW o ta (b 0) sp (x 0) (y 0) se ex) ++ (TabW b cI ((Y9.2.2.2.2).1) ((Y9.2.2.2.2).2.1) ((Y9.2.2.2.2).2.2.1) ((Y9.2.2.2.2).2.2.2.1) ((Y9.2.2.2.2).2.2.2.2.1) ((Y9.2.2.2.2).2.2.2.2.2.1) ((Y9.2.2.2.2).2.2.2.2.2.2)) ++ (TxtW x cC sg ln lo) ++ (ParW y (x 0) Y9.2.1 Y9.2.2.1 Y9.2.2.2.1)) (c_P_fill l D cI cC E (y) (x) (b) (sg) (ln) (lo) (ws) (we) (le) (sd) (pd) (rk) (gp) (of) (to) (n) (Y9) hX0 hT hY9) cw_F_139 [10, 8, 9, 1, 2, 3, 4, 5, 6, 7] [0] [0, 4, 5, 6, 7, 8, 9, 10, 2, 3, 1] (qr := 0) rfl rfl rfl (of_decide_eq_true rfl) rfl (of_decide_eq_true rfl) rfl (of_decide_eq_true rfl) rfl (of_decide_eq_true rfl) rfl ⟨rfl, rfl⟩ ⟨by decide, by decide⟩ ⟨by decide, by decide⟩ rfl rfl (of_decide_eq_true rfl) d_F_read_8 rfl ?_
  refine V.istore_n C (n := 12) (lv' := [(0, .ref (o 0)), (1, .int (nI (Y9.1)))]) [1, 0] d_F_read_11 rfl (by decide) rfl rfl ?_
  refine V.aload_n C (n := 13) (j := 0) d_F_read_12 rfl rfl rfl ?_
  refine V.get C (n := 16) (q0 := 0) (k0 := 3) clOk_0 rfl (by decide) rfl fl_F_29 rfl d_F_read_13 rfl ?_
  refine V.callV_v C (n := 19) (ws2 := fun _ => (FtW o ta (b 0) sp (x 0) (y 0) se ex) ++ (TabW b cI ((Y9.2.2.2.2).1) ((Y9.2.2.2.2).2.1) ((Y9.2.2.2.2).2.2.1) ((Y9.2.2.2.2).2.2.2.1) ((Y9.2.2.2.2).2.2.2.2.1) ((Y9.2.2.2.2).2.2.2.2.2.1) ((Y9.2.2.2.2).2.2.2.2.2.2)) ++ (TxtW x cC sg 0 false) ++ (ParW y (x 0) Y9.2.1 Y9.2.2.1 Y9.2.2.2.1)) (c_X_clear l D cI cC E (x) (sg) (ln) (lo) hX0) cw_F_142 [8, 9] [0, 1, 2, 3, 4, 5, 6, 7, 10] [0, 1, 2, 3, 4, 5, 6, 7, 9, 10, 8] (qr := 0) rfl rfl rfl (of_decide_eq_true rfl) rfl (of_decide_eq_true rfl) rfl (of_decide_eq_true rfl) (fun _ => rfl) (fun _ => of_decide_eq_true rfl) rfl ⟨rfl, rfl⟩ ⟨by decide, by decide⟩ ⟨by decide, by decide⟩ rfl rfl (of_decide_eq_true rfl) d_F_read_16 rfl (fun _ _ => ?_)
  refine V.iload_n C (n := 20) (j := 1) d_F_read_19 rfl rfl rfl ?_
  refine V.ifn_le C (tgt := 26) (n := 23) (by omega) d_F_read_20 (by decide) rfl (fun c20_1 => ?_) (fun c20_1 => ?_)
  · refine V.aload_n C (n := 27) (j := 0) d_F_read_26 rfl rfl rfl ?_
    refine V.get C (n := 30) (q0 := 0) (k0 := 0) clOk_0 rfl (by decide) rfl fl_F_10 rfl d_F_read_27 rfl ?_
    refine V.astore_n C (n := 31) (lv' := [(0, .ref (o 0)), (1, .int (nI (Y9.1))), (2, .ref ta)]) [1, 2, 0] d_F_read_30 rfl (by decide) rfl rfl ?_
    refine V.aload_n C (n := 32) (j := 0) d_F_read_31 rfl rfl rfl ?_
    refine V.aload_n C (n := 33) (j := 0) d_F_read_32 rfl rfl rfl ?_
    refine V.get C (n := 36) (q0 := 0) (k0 := 1) clOk_0 rfl (by decide) rfl fl_F_16 rfl d_F_read_33 rfl ?_
    refine V.put C (n := 39) (q0 := 0) (k0 := 0) (ws' := (FtW o (b 0) (b 0) sp (x 0) (y 0) se ex) ++ (TabW b cI ((Y9.2.2.2.2).1) ((Y9.2.2.2.2).2.1) ((Y9.2.2.2.2).2.2.1) ((Y9.2.2.2.2).2.2.2.1) ((Y9.2.2.2.2).2.2.2.2.1) ((Y9.2.2.2.2).2.2.2.2.2.1) ((Y9.2.2.2.2).2.2.2.2.2.2)) ++ (TxtW x cC sg 0 false) ++ (ParW y (x 0) Y9.2.1 Y9.2.2.1 Y9.2.2.2.1)) clOk_0 rfl (by decide) rfl rfl fl_F_10 rfl rfl (of_decide_eq_true rfl) rfl d_F_read_36 rfl ?_
    refine V.aload_n C (n := 40) (j := 0) d_F_read_39 rfl rfl rfl ?_
    refine V.aload_n C (n := 41) (j := 2) d_F_read_40 rfl rfl rfl ?_
    refine V.put C (n := 44) (q0 := 0) (k0 := 1) (ws' := (FtW o (b 0) ta sp (x 0) (y 0) se ex) ++ (TabW b cI ((Y9.2.2.2.2).1) ((Y9.2.2.2.2).2.1) ((Y9.2.2.2.2).2.2.1) ((Y9.2.2.2.2).2.2.2.1) ((Y9.2.2.2.2).2.2.2.2.1) ((Y9.2.2.2.2).2.2.2.2.2.1) ((Y9.2.2.2.2).2.2.2.2.2.2)) ++ (TxtW x cC sg 0 false) ++ (ParW y (x 0) Y9.2.1 Y9.2.2.1 Y9.2.2.2.1)) clOk_0 rfl (by decide) rfl rfl fl_F_16 rfl rfl (of_decide_eq_true rfl) rfl d_F_read_41 rfl ?_
    refine V.aload_n C (n := 45) (j := 0) d_F_read_44 rfl rfl rfl ?_
    refine V.iconst C (v := nI 0) (n := 46) d_F_read_45 (by decide) rfl ?_
    refine V.cv C (y := bI (false = true)) (bI_0 (by decide)) ?_
    refine V.put C (n := 49) (q0 := 0) (k0 := 6) (ws' := (FtW o (b 0) ta sp (x 0) (y 0) se false) ++ (TabW b cI ((Y9.2.2.2.2).1) ((Y9.2.2.2.2).2.1) ((Y9.2.2.2.2).2.2.1) ((Y9.2.2.2.2).2.2.2.1) ((Y9.2.2.2.2).2.2.2.2.1) ((Y9.2.2.2.2).2.2.2.2.2.1) ((Y9.2.2.2.2).2.2.2.2.2.2)) ++ (TxtW x cC sg 0 false) ++ (ParW y (x 0) Y9.2.1 Y9.2.2.1 Y9.2.2.2.1)) clOk_0 rfl (by decide) rfl rfl fl_F_49 (bI_nar _) (bI_fit _) (of_decide_eq_true rfl) rfl d_F_read_46 rfl ?_
    refine V.aload_n C (n := 50) (j := 0) d_F_read_49 rfl rfl rfl ?_
    refine V.get C (n := 53) (q0 := 0) (k0 := 0) clOk_0 rfl (by decide) rfl fl_F_10 rfl d_F_read_50 rfl ?_
    refine V.callV_i C (n := 56) (ws' := (FtW o (b 0) ta sp (x 0) (y 0) se false) ++ (TabW b cI ((Y9.2.2.2.2).1) ((Y9.2.2.2.2).2.1) ((Y9.2.2.2.2).2.2.1) ((Y9.2.2.2.2).2.2.2.1) ((Y9.2.2.2.2).2.2.2.2.1) ((Y9.2.2.2.2).2.2.2.2.2.1) ((Y9.2.2.2.2).2.2.2.2.2.2)) ++ (TxtW x cC sg 0 false) ++ (ParW y (x 0) Y9.2.1 Y9.2.2.1 Y9.2.2.2.1)) (c_T_size l D cI cC E (b) ((Y9.2.2.2.2).1) ((Y9.2.2.2.2).2.1) ((Y9.2.2.2.2).2.2.1) ((Y9.2.2.2.2).2.2.2.1) ((Y9.2.2.2.2).2.2.2.2.1) ((Y9.2.2.2.2).2.2.2.2.2.1) ((Y9.2.2.2.2).2.2.2.2.2.2) hfl.1) cw_F_127 [1, 2, 3, 4, 5, 6, 7] [0, 8, 9, 10] [0, 4, 5, 6, 7, 8, 9, 10, 1, 2, 3] (qr := 0) rfl rfl rfl (of_decide_eq_true rfl) rfl (of_decide_eq_true rfl) rfl (of_decide_eq_true rfl) rfl (of_decide_eq_true rfl) rfl ⟨rfl, rfl⟩ ⟨by decide, by decide⟩ ⟨by decide, by decide⟩ rfl rfl (of_decide_eq_true rfl) d_F_read_53 rfl ?_
    exact V.iret C hr d_F_read_56 (rfl) (rfl)
  · exfalso; omega
end
section
set_option maxHeartbeats 4000000 in
set_option maxRecDepth 100000 in
theorem c_F_writeLine (l : Launch) (D : va_G) (cI cC : ClassId) (E : Nat → Nat) (o a x : Nat → Nat) (dr sp pr se : Nat) (ex : Bool) (sg : Nat → Nat) (ln : Nat) (lo : Bool) (sd pd rk gp of to : Nat → Nat) (n : Nat) (f : Nat) (hX0 : TxtOK sg ln) (hT : TabOK sd pd rk gp of to n) (hf : f ≤ 40) : CV l D (TY cI cC E) m_F_writeLine (rmD 7) [.ref (o 0), .int (nI f)] ((FtW o (a 0) dr sp (x 0) pr se ex) ++ (TabW a cI sd pd rk gp of to n) ++ (TxtW x cC sg ln lo)) ((FtW o (a 0) dr sp (x 0) pr se ex) ++ (TabW a cI sd pd rk gp of to n) ++ (TxtW x cC ((lnX sd pd rk gp to f (sg, ln, lo)).1) ((lnX sd pd rk gp to f (sg, ln, lo)).2.1) ((lnX sd pd rk gp to f (sg, ln, lo)).2.2))) := by
  obtain ⟨hln, hsg⟩ := id hX0
  obtain ⟨hn, hsd, hpd, hrk, hgp, hof, hto⟩ := id hT
  have f1 := hsd f
  have f2 := hpd f
  have f3 := hrk f
  have f4 := hgp f
  refine CN.of (by decide +kernel) (of_decide_eq_true rfl) ?_
  intro p e s m args below meth c C hr hin
  refine V.aload_n C (n := 1) (j := 0) d_F_writeLine_0 rfl rfl rfl ?_
  refine V.get C (n := 4) (q0 := 0) (k0 := 3) clOk_0 rfl (by decide) rfl fl_F_29 rfl d_F_writeLine_1 rfl ?_
  refine V.ldcS C (n := 6) ls_F_177 d_F_writeLine_4 rfl ?_
  refine V.callV_v C (n := 9) (ws2 := fun _ => (FtW o (a 0) dr sp (x 0) pr se ex) ++ (TabW a cI sd pd rk gp of to n) ++ (TxtW x cC ((wrdX (sg, ln, lo) 0 (sln 0)).1) ((wrdX (sg, ln, lo) 0 (sln 0)).2.1) ((wrdX (sg, ln, lo) 0 (sln 0)).2.2))) (c_X_addWord l D cI cC E (x) (sg) (ln) (lo) (0) hX0 (by decide)) cw_F_179 [8, 9] [0, 1, 2, 3, 4, 5, 6, 7] [0, 1, 2, 3, 4, 5, 6, 7, 8, 9] (qr := 0) rfl rfl rfl (of_decide_eq_true rfl) rfl (of_decide_eq_true rfl) rfl (of_decide_eq_true rfl) (fun _ => rfl) (fun _ => of_decide_eq_true rfl) rfl ⟨rfl, rfl⟩ ⟨by decide, by decide⟩ ⟨by decide, by decide⟩ rfl rfl (of_decide_eq_true rfl) d_F_writeLine_6 rfl (fun _ _ => ?_)
  obtain ⟨A0, hA0⟩ : ∃ t : TxS, t = wrdX (sg, ln, lo) 0 (sln 0) := ⟨_, rfl⟩
  have kA0 : TxtOK A0.1 A0.2.1 := by rw [hA0]; exact wrdX_ok (t := (sg, ln, lo)) hX0 _
  refine V.wo C (ws' := (FtW o (a 0) dr sp (x 0) pr se ex) ++ (TabW a cI sd pd rk gp of to n) ++ (TxtW x cC A0.1 A0.2.1 A0.2.2)) (by rw [hA0]; try rfl) ?_
  refine V.aload_n C (n := 10) (j := 0) d_F_writeLine_9 rfl rfl rfl ?_
  refine V.get C (n := 13) (q0 := 0) (k0 := 3) clOk_0 rfl (by decide) rfl fl_F_29 rfl d_F_writeLine_10 rfl ?_
  refine V.aload_n C (n := 14) (j := 0) d_F_writeLine_13 rfl rfl rfl ?_
  refine V.get C (n := 17) (q0 := 0) (k0 := 0) clOk_0 rfl (by decide) rfl fl_F_10 rfl d_F_writeLine_14 rfl ?_
  refine V.iload_n C (n := 18) (j := 1) d_F_writeLine_17 rfl rfl rfl ?_
  refine V.callV_i C (n := 21) (ws' := (FtW o (a 0) dr sp (x 0) pr se ex) ++ (TabW a cI sd pd rk gp of to n) ++ (TxtW x cC A0.1 A0.2.1 A0.2.2)) (c_T_senderOf l D cI cC E (a) (sd) (pd) (rk) (gp) (of) (to) (n) (f) hT hf) cw_F_74 [1, 2, 3, 4, 5, 6, 7] [0, 8, 9] [0, 3, 4, 5, 6, 7, 8, 9, 1, 2] (qr := 0) rfl rfl rfl (of_decide_eq_true rfl) rfl (of_decide_eq_true rfl) rfl (of_decide_eq_true rfl) rfl (of_decide_eq_true rfl) rfl ⟨rfl, rfl⟩ ⟨by decide, by decide⟩ ⟨by decide, by decide⟩ rfl rfl (of_decide_eq_true rfl) d_F_writeLine_18 rfl ?_
  have b_1 := hsd (f)
  refine V.callV_v C (n := 24) (ws2 := fun _ => (FtW o (a 0) dr sp (x 0) pr se ex) ++ (TabW a cI sd pd rk gp of to n) ++ (TxtW x cC ((numX (A0.1, A0.2.1, A0.2.2) (sd f)).1) ((numX (A0.1, A0.2.1, A0.2.2) (sd f)).2.1) ((numX (A0.1, A0.2.1, A0.2.2) (sd f)).2.2))) (c_X_addNumber l D cI cC E (x) (A0.1) (A0.2.1) (A0.2.2) (sd f) kA0 (by omega)) cw_F_183 [8, 9] [0, 1, 2, 3, 4, 5, 6, 7] [0, 1, 2, 3, 4, 5, 6, 7, 8, 9] (qr := 0) rfl rfl rfl (of_decide_eq_true rfl) rfl (of_decide_eq_true rfl) rfl (of_decide_eq_true rfl) (fun _ => rfl) (fun _ => of_decide_eq_true rfl) rfl ⟨rfl, rfl⟩ ⟨by decide, by decide⟩ ⟨by decide, by decide⟩ rfl rfl (of_decide_eq_true rfl) d_F_writeLine_21 rfl (fun _ _ => ?_)
  obtain ⟨A1, hA1⟩ : ∃ t : TxS, t = numX A0 (sd f) := ⟨_, rfl⟩
  have kA1 : TxtOK A1.1 A1.2.1 := by rw [hA1]; exact numX_ok kA0
  refine V.wo C (ws' := (FtW o (a 0) dr sp (x 0) pr se ex) ++ (TabW a cI sd pd rk gp of to n) ++ (TxtW x cC A1.1 A1.2.1 A1.2.2)) (by rw [hA1]; try rfl) ?_
  refine V.aload_n C (n := 25) (j := 0) d_F_writeLine_24 rfl rfl rfl ?_
  refine V.get C (n := 28) (q0 := 0) (k0 := 3) clOk_0 rfl (by decide) rfl fl_F_29 rfl d_F_writeLine_25 rfl ?_
  refine V.aload_n C (n := 29) (j := 0) d_F_writeLine_28 rfl rfl rfl ?_
  refine V.get C (n := 32) (q0 := 0) (k0 := 0) clOk_0 rfl (by decide) rfl fl_F_10 rfl d_F_writeLine_29 rfl ?_
  refine V.iload_n C (n := 33) (j := 1) d_F_writeLine_32 rfl rfl rfl ?_
  refine V.callV_i C (n := 36) (ws' := (FtW o (a 0) dr sp (x 0) pr se ex) ++ (TabW a cI sd pd rk gp of to n) ++ (TxtW x cC A1.1 A1.2.1 A1.2.2)) (c_T_periodOf l D cI cC E (a) (sd) (pd) (rk) (gp) (of) (to) (n) (f) hT hf) cw_F_120 [1, 2, 3, 4, 5, 6, 7] [0, 8, 9] [0, 3, 4, 5, 6, 7, 8, 9, 1, 2] (qr := 0) rfl rfl rfl (of_decide_eq_true rfl) rfl (of_decide_eq_true rfl) rfl (of_decide_eq_true rfl) rfl (of_decide_eq_true rfl) rfl ⟨rfl, rfl⟩ ⟨by decide, by decide⟩ ⟨by decide, by decide⟩ rfl rfl (of_decide_eq_true rfl) d_F_writeLine_33 rfl ?_
  have b_2 := hpd (f)
  refine V.callV_v C (n := 39) (ws2 := fun _ => (FtW o (a 0) dr sp (x 0) pr se ex) ++ (TabW a cI sd pd rk gp of to n) ++ (TxtW x cC ((numX (A1.1, A1.2.1, A1.2.2) (pd f)).1) ((numX (A1.1, A1.2.1, A1.2.2) (pd f)).2.1) ((numX (A1.1, A1.2.1, A1.2.2) (pd f)).2.2))) (c_X_addNumber l D cI cC E (x) (A1.1) (A1.2.1) (A1.2.2) (pd f) kA1 (by omega)) cw_F_183 [8, 9] [0, 1, 2, 3, 4, 5, 6, 7] [0, 1, 2, 3, 4, 5, 6, 7, 8, 9] (qr := 0) rfl rfl rfl (of_decide_eq_true rfl) rfl (of_decide_eq_true rfl) rfl (of_decide_eq_true rfl) (fun _ => rfl) (fun _ => of_decide_eq_true rfl) rfl ⟨rfl, rfl⟩ ⟨by decide, by decide⟩ ⟨by decide, by decide⟩ rfl rfl (of_decide_eq_true rfl) d_F_writeLine_36 rfl (fun _ _ => ?_)
  obtain ⟨A2, hA2⟩ : ∃ t : TxS, t = numX A1 (pd f) := ⟨_, rfl⟩
  have kA2 : TxtOK A2.1 A2.2.1 := by rw [hA2]; exact numX_ok kA1
  refine V.wo C (ws' := (FtW o (a 0) dr sp (x 0) pr se ex) ++ (TabW a cI sd pd rk gp of to n) ++ (TxtW x cC A2.1 A2.2.1 A2.2.2)) (by rw [hA2]; try rfl) ?_
  refine V.aload_n C (n := 40) (j := 0) d_F_writeLine_39 rfl rfl rfl ?_
  refine V.get C (n := 43) (q0 := 0) (k0 := 3) clOk_0 rfl (by decide) rfl fl_F_29 rfl d_F_writeLine_40 rfl ?_
  refine V.aload_n C (n := 44) (j := 0) d_F_writeLine_43 rfl rfl rfl ?_
  refine V.get C (n := 47) (q0 := 0) (k0 := 0) clOk_0 rfl (by decide) rfl fl_F_10 rfl d_F_writeLine_44 rfl ?_
  refine V.iload_n C (n := 48) (j := 1) d_F_writeLine_47 rfl rfl rfl ?_
  refine V.callV_i C (n := 51) (ws' := (FtW o (a 0) dr sp (x 0) pr se ex) ++ (TabW a cI sd pd rk gp of to n) ++ (TxtW x cC A2.1 A2.2.1 A2.2.2)) (c_T_rankOf l D cI cC E (a) (sd) (pd) (rk) (gp) (of) (to) (n) (f) hT hf) cw_F_186 [1, 2, 3, 4, 5, 6, 7] [0, 8, 9] [0, 3, 4, 5, 6, 7, 8, 9, 1, 2] (qr := 0) rfl rfl rfl (of_decide_eq_true rfl) rfl (of_decide_eq_true rfl) rfl (of_decide_eq_true rfl) rfl (of_decide_eq_true rfl) rfl ⟨rfl, rfl⟩ ⟨by decide, by decide⟩ ⟨by decide, by decide⟩ rfl rfl (of_decide_eq_true rfl) d_F_writeLine_48 rfl ?_
  have b_3 := hrk (f)
  refine V.callV_v C (n := 54) (ws2 := fun _ => (FtW o (a 0) dr sp (x 0) pr se ex) ++ (TabW a cI sd pd rk gp of to n) ++ (TxtW x cC ((numX (A2.1, A2.2.1, A2.2.2) (rk f)).1) ((numX (A2.1, A2.2.1, A2.2.2) (rk f)).2.1) ((numX (A2.1, A2.2.1, A2.2.2) (rk f)).2.2))) (c_X_addNumber l D cI cC E (x) (A2.1) (A2.2.1) (A2.2.2) (rk f) kA2 (by omega)) cw_F_183 [8, 9] [0, 1, 2, 3, 4, 5, 6, 7] [0, 1, 2, 3, 4, 5, 6, 7, 8, 9] (qr := 0) rfl rfl rfl (of_decide_eq_true rfl) rfl (of_decide_eq_true rfl) rfl (of_decide_eq_true rfl) (fun _ => rfl) (fun _ => of_decide_eq_true rfl) rfl ⟨rfl, rfl⟩ ⟨by decide, by decide⟩ ⟨by decide, by decide⟩ rfl rfl (of_decide_eq_true rfl) d_F_writeLine_51 rfl (fun _ _ => ?_)
  obtain ⟨A3, hA3⟩ : ∃ t : TxS, t = numX A2 (rk f) := ⟨_, rfl⟩
  have kA3 : TxtOK A3.1 A3.2.1 := by rw [hA3]; exact numX_ok kA2
  refine V.wo C (ws' := (FtW o (a 0) dr sp (x 0) pr se ex) ++ (TabW a cI sd pd rk gp of to n) ++ (TxtW x cC A3.1 A3.2.1 A3.2.2)) (by rw [hA3]; try rfl) ?_
  refine V.aload_n C (n := 55) (j := 0) d_F_writeLine_54 rfl rfl rfl ?_
  refine V.get C (n := 58) (q0 := 0) (k0 := 3) clOk_0 rfl (by decide) rfl fl_F_29 rfl d_F_writeLine_55 rfl ?_
  refine V.aload_n C (n := 59) (j := 0) d_F_writeLine_58 rfl rfl rfl ?_
  refine V.get C (n := 62) (q0 := 0) (k0 := 0) clOk_0 rfl (by decide) rfl fl_F_10 rfl d_F_writeLine_59 rfl ?_
  refine V.iload_n C (n := 63) (j := 1) d_F_writeLine_62 rfl rfl rfl ?_
  refine V.callV_i C (n := 66) (ws' := (FtW o (a 0) dr sp (x 0) pr se ex) ++ (TabW a cI sd pd rk gp of to n) ++ (TxtW x cC A3.1 A3.2.1 A3.2.2)) (c_T_gapOf l D cI cC E (a) (sd) (pd) (rk) (gp) (of) (to) (n) (f) hT hf) cw_F_189 [1, 2, 3, 4, 5, 6, 7] [0, 8, 9] [0, 3, 4, 5, 6, 7, 8, 9, 1, 2] (qr := 0) rfl rfl rfl (of_decide_eq_true rfl) rfl (of_decide_eq_true rfl) rfl (of_decide_eq_true rfl) rfl (of_decide_eq_true rfl) rfl ⟨rfl, rfl⟩ ⟨by decide, by decide⟩ ⟨by decide, by decide⟩ rfl rfl (of_decide_eq_true rfl) d_F_writeLine_63 rfl ?_
  have b_4 := hgp (f)
  refine V.callV_v C (n := 69) (ws2 := fun _ => (FtW o (a 0) dr sp (x 0) pr se ex) ++ (TabW a cI sd pd rk gp of to n) ++ (TxtW x cC ((numX (A3.1, A3.2.1, A3.2.2) (gp f)).1) ((numX (A3.1, A3.2.1, A3.2.2) (gp f)).2.1) ((numX (A3.1, A3.2.1, A3.2.2) (gp f)).2.2))) (c_X_addNumber l D cI cC E (x) (A3.1) (A3.2.1) (A3.2.2) (gp f) kA3 (by omega)) cw_F_183 [8, 9] [0, 1, 2, 3, 4, 5, 6, 7] [0, 1, 2, 3, 4, 5, 6, 7, 8, 9] (qr := 0) rfl rfl rfl (of_decide_eq_true rfl) rfl (of_decide_eq_true rfl) rfl (of_decide_eq_true rfl) (fun _ => rfl) (fun _ => of_decide_eq_true rfl) rfl ⟨rfl, rfl⟩ ⟨by decide, by decide⟩ ⟨by decide, by decide⟩ rfl rfl (of_decide_eq_true rfl) d_F_writeLine_66 rfl (fun _ _ => ?_)
  obtain ⟨A4, hA4⟩ : ∃ t : TxS, t = numX A3 (gp f) := ⟨_, rfl⟩
  have kA4 : TxtOK A4.1 A4.2.1 := by rw [hA4]; exact numX_ok kA3
  refine V.wo C (ws' := (FtW o (a 0) dr sp (x 0) pr se ex) ++ (TabW a cI sd pd rk gp of to n) ++ (TxtW x cC A4.1 A4.2.1 A4.2.2)) (by rw [hA4]; try rfl) ?_
  refine V.iconst C (v := nI 1) (n := 70) d_F_writeLine_69 (by decide) rfl ?_
  refine V.istore_n C (n := 71) (lv' := [(0, .ref (o 0)), (1, .int (nI f)), (2, .int (nI 1))]) [1, 2, 0] d_F_writeLine_70 rfl (by decide) rfl rfl ?_
  refine V.ind2 C (fun (j : Nat) (T : TxS) => (FtW o (a 0) dr sp (x 0) pr se ex) ++ (TabW a cI sd pd rk gp of to n) ++ (TxtW x cC T.1 T.2.1 T.2.2)) (fun (j : Nat) (T : TxS) => [(0, .ref (o 0)), (1, .int (nI f)), (2, .int (nI (j + 1)))]) (fun (j : Nat) (T : TxS) => (j ≤ 20) ∧ (T = rdX to f j A4) ∧ (TxtOK T.1 T.2.1)) (fun (j : Nat) (T : TxS) => 20 - j) (0) (A4) ⟨by omega, rfl, kA4⟩ rfl rfl ?_
  rintro j T ⟨hj, hq, hTX⟩ ih71
  try dsimp only
  have f5 := hto (f * 21 + (j + 1))
  refine V.iload_n C (n := 72) (j := 2) d_F_writeLine_71 rfl rfl rfl ?_
  refine V.bipush C (v := nI 20) (n := 74) d_F_writeLine_72 (by decide) rfl ?_
  refine V.icmpn_gt C (tgt := 137) (n := 77) (by omega) (by omega) d_F_writeLine_74 (by decide) rfl (fun c74_1 => ?_) (fun c74_1 => ?_)
  · refine V.aload_n C (n := 138) (j := 0) d_F_writeLine_137 rfl rfl rfl ?_
    refine V.get C (n := 141) (q0 := 0) (k0 := 3) clOk_0 rfl (by decide) rfl fl_F_29 rfl d_F_writeLine_138 rfl ?_
    refine V.bipush C (v := nI 10) (n := 143) d_F_writeLine_141 (by decide) rfl ?_
    refine V.callV_v C (n := 146) (ws2 := fun _ => (FtW o (a 0) dr sp (x 0) pr se ex) ++ (TabW a cI sd pd rk gp of to n) ++ (TxtW x cC ((addX (T.1, T.2.1, T.2.2) 10).1) ((addX (T.1, T.2.1, T.2.2) 10).2.1) ((addX (T.1, T.2.1, T.2.2) 10).2.2))) (c_X_add l D cI cC E (x) (T.1) (T.2.1) (T.2.2) (10) hTX (by omega)) cw_F_135 [8, 9] [0, 1, 2, 3, 4, 5, 6, 7] [0, 1, 2, 3, 4, 5, 6, 7, 8, 9] (qr := 0) rfl rfl rfl (of_decide_eq_true rfl) rfl (of_decide_eq_true rfl) rfl (of_decide_eq_true rfl) (fun _ => rfl) (fun _ => of_decide_eq_true rfl) rfl ⟨rfl, rfl⟩ ⟨by decide, by decide⟩ ⟨by decide, by decide⟩ rfl rfl (of_decide_eq_true rfl) d_F_writeLine_143 rfl (fun _ _ => ?_)
    exact V.vret C hr d_F_writeLine_146 () (trivial) (by rw [lnX, hdX, ← hA0, ← hA1, ← hA2, ← hA3, ← hA4, ← show j = 20 by omega, ← hq]; try rfl)
  · refine V.aload_n C (n := 78) (j := 0) d_F_writeLine_77 rfl rfl rfl ?_
    refine V.get C (n := 81) (q0 := 0) (k0 := 0) clOk_0 rfl (by decide) rfl fl_F_10 rfl d_F_writeLine_78 rfl ?_
    refine V.iload_n C (n := 82) (j := 1) d_F_writeLine_81 rfl rfl rfl ?_
    refine V.iload_n C (n := 83) (j := 2) d_F_writeLine_82 rfl rfl rfl ?_
    refine V.callV_i C (n := 86) (ws' := (FtW o (a 0) dr sp (x 0) pr se ex) ++ (TabW a cI sd pd rk gp of to n) ++ (TxtW x cC T.1 T.2.1 T.2.2)) (c_T_reads l D cI cC E (a) (sd) (pd) (rk) (gp) (of) (to) (n) (f) (j + 1) hT hf (by first | omega | assumption)) cw_F_192 [1, 2, 3, 4, 5, 6, 7] [0, 8, 9] [0, 3, 4, 5, 6, 7, 8, 9, 1, 2] (qr := 0) rfl rfl rfl (of_decide_eq_true rfl) rfl (of_decide_eq_true rfl) rfl (of_decide_eq_true rfl) rfl (of_decide_eq_true rfl) rfl ⟨rfl, rfl⟩ ⟨by decide, by decide⟩ ⟨by decide, by decide⟩ rfl rfl (of_decide_eq_true rfl) d_F_writeLine_83 rfl ?_
    refine V.ifb_eq C (tgt := 131) (n := 89) d_F_writeLine_86 (by decide) rfl (fun c86_2 => ?_) (fun c86_2 => ?_)
    · refine V.iinc C (n := 134) (j := 2) (v := nI (j + 1 + 1)) (lv' := [(0, .ref (o 0)), (1, .int (nI f)), (2, .int (nI (j + 1 + 1)))]) [1, 2, 0] d_F_writeLine_131 rfl (nI_inc (j + 1) 1) (by decide) rfl rfl ?_
      refine V.goto C (n := 71) d_F_writeLine_134 (by decide) ?_
      exact ih71 (j + 1) (T) ⟨by omega, by rw [rdX, if_neg (by omega)]; exact hq, hTX⟩ (by omega)
    · refine V.aload_n C (n := 90) (j := 0) d_F_writeLine_89 rfl rfl rfl ?_
      refine V.get C (n := 93) (q0 := 0) (k0 := 3) clOk_0 rfl (by decide) rfl fl_F_29 rfl d_F_writeLine_90 rfl ?_
      refine V.bipush C (v := nI 32) (n := 95) d_F_writeLine_93 (by decide) rfl ?_
      refine V.callV_v C (n := 98) (ws2 := fun _ => (FtW o (a 0) dr sp (x 0) pr se ex) ++ (TabW a cI sd pd rk gp of to n) ++ (TxtW x cC ((addX (T.1, T.2.1, T.2.2) 32).1) ((addX (T.1, T.2.1, T.2.2) 32).2.1) ((addX (T.1, T.2.1, T.2.2) 32).2.2))) (c_X_add l D cI cC E (x) (T.1) (T.2.1) (T.2.2) (32) hTX (by omega)) cw_F_135 [8, 9] [0, 1, 2, 3, 4, 5, 6, 7] [0, 1, 2, 3, 4, 5, 6, 7, 8, 9] (qr := 0) rfl rfl rfl (of_decide_eq_true rfl) rfl (of_decide_eq_true rfl) rfl (of_decide_eq_true rfl) (fun _ => rfl) (fun _ => of_decide_eq_true rfl) rfl ⟨rfl, rfl⟩ ⟨by decide, by decide⟩ ⟨by decide, by decide⟩ rfl rfl (of_decide_eq_true rfl) d_F_writeLine_95 rfl (fun _ _ => ?_)
      obtain ⟨B0, hB0⟩ : ∃ t : TxS, t = addX T 32 := ⟨_, rfl⟩
      have kB0 : TxtOK B0.1 B0.2.1 := by rw [hB0]; exact addX_ok hTX (by omega)
      refine V.wo C (ws' := (FtW o (a 0) dr sp (x 0) pr se ex) ++ (TabW a cI sd pd rk gp of to n) ++ (TxtW x cC B0.1 B0.2.1 B0.2.2)) (by rw [hB0]; try rfl) ?_
      refine V.aload_n C (n := 99) (j := 0) d_F_writeLine_98 rfl rfl rfl ?_
      refine V.get C (n := 102) (q0 := 0) (k0 := 3) clOk_0 rfl (by decide) rfl fl_F_29 rfl d_F_writeLine_99 rfl ?_
      refine V.ldcS C (n := 104) ls_F_195 d_F_writeLine_102 rfl ?_
      refine V.callV_v C (n := 107) (ws2 := fun _ => (FtW o (a 0) dr sp (x 0) pr se ex) ++ (TabW a cI sd pd rk gp of to n) ++ (TxtW x cC ((wrdX (B0.1, B0.2.1, B0.2.2) 1 (sln 1)).1) ((wrdX (B0.1, B0.2.1, B0.2.2) 1 (sln 1)).2.1) ((wrdX (B0.1, B0.2.1, B0.2.2) 1 (sln 1)).2.2))) (c_X_addWord l D cI cC E (x) (B0.1) (B0.2.1) (B0.2.2) (1) kB0 (by decide)) cw_F_179 [8, 9] [0, 1, 2, 3, 4, 5, 6, 7] [0, 1, 2, 3, 4, 5, 6, 7, 8, 9] (qr := 0) rfl rfl rfl (of_decide_eq_true rfl) rfl (of_decide_eq_true rfl) rfl (of_decide_eq_true rfl) (fun _ => rfl) (fun _ => of_decide_eq_true rfl) rfl ⟨rfl, rfl⟩ ⟨by decide, by decide⟩ ⟨by decide, by decide⟩ rfl rfl (of_decide_eq_true rfl) d_F_writeLine_104 rfl (fun _ _ => ?_)
      obtain ⟨B1, hB1⟩ : ∃ t : TxS, t = wrdX B0 1 (sln 1) := ⟨_, rfl⟩
      have kB1 : TxtOK B1.1 B1.2.1 := by rw [hB1]; exact wrdX_ok kB0 _
      refine V.wo C (ws' := (FtW o (a 0) dr sp (x 0) pr se ex) ++ (TabW a cI sd pd rk gp of to n) ++ (TxtW x cC B1.1 B1.2.1 B1.2.2)) (by rw [hB1]; try rfl) ?_
      refine V.aload_n C (n := 108) (j := 0) d_F_writeLine_107 rfl rfl rfl ?_
      refine V.get C (n := 111) (q0 := 0) (k0 := 3) clOk_0 rfl (by decide) rfl fl_F_29 rfl d_F_writeLine_108 rfl ?_
      refine V.iload_n C (n := 112) (j := 2) d_F_writeLine_111 rfl rfl rfl ?_
      refine V.callV_v C (n := 115) (ws2 := fun _ => (FtW o (a 0) dr sp (x 0) pr se ex) ++ (TabW a cI sd pd rk gp of to n) ++ (TxtW x cC ((numX (B1.1, B1.2.1, B1.2.2) (j + 1)).1) ((numX (B1.1, B1.2.1, B1.2.2) (j + 1)).2.1) ((numX (B1.1, B1.2.1, B1.2.2) (j + 1)).2.2))) (c_X_addNumber l D cI cC E (x) (B1.1) (B1.2.1) (B1.2.2) (j + 1) kB1 (by omega)) cw_F_183 [8, 9] [0, 1, 2, 3, 4, 5, 6, 7] [0, 1, 2, 3, 4, 5, 6, 7, 8, 9] (qr := 0) rfl rfl rfl (of_decide_eq_true rfl) rfl (of_decide_eq_true rfl) rfl (of_decide_eq_true rfl) (fun _ => rfl) (fun _ => of_decide_eq_true rfl) rfl ⟨rfl, rfl⟩ ⟨by decide, by decide⟩ ⟨by decide, by decide⟩ rfl rfl (of_decide_eq_true rfl) d_F_writeLine_112 rfl (fun _ _ => ?_)
      obtain ⟨B2, hB2⟩ : ∃ t : TxS, t = numX B1 (j + 1) := ⟨_, rfl⟩
      have kB2 : TxtOK B2.1 B2.2.1 := by rw [hB2]; exact numX_ok kB1
      refine V.wo C (ws' := (FtW o (a 0) dr sp (x 0) pr se ex) ++ (TabW a cI sd pd rk gp of to n) ++ (TxtW x cC B2.1 B2.2.1 B2.2.2)) (by rw [hB2]; try rfl) ?_
      refine V.aload_n C (n := 116) (j := 0) d_F_writeLine_115 rfl rfl rfl ?_
      refine V.get C (n := 119) (q0 := 0) (k0 := 3) clOk_0 rfl (by decide) rfl fl_F_29 rfl d_F_writeLine_116 rfl ?_
      refine V.aload_n C (n := 120) (j := 0) d_F_writeLine_119 rfl rfl rfl ?_
      refine V.get C (n := 123) (q0 := 0) (k0 := 0) clOk_0 rfl (by decide) rfl fl_F_10 rfl d_F_writeLine_120 rfl ?_
      refine V.iload_n C (n := 124) (j := 1) d_F_writeLine_123 rfl rfl rfl ?_
      refine V.iload_n C (n := 125) (j := 2) d_F_writeLine_124 rfl rfl rfl ?_
      refine V.callV_i C (n := 128) (ws' := (FtW o (a 0) dr sp (x 0) pr se ex) ++ (TabW a cI sd pd rk gp of to n) ++ (TxtW x cC B2.1 B2.2.1 B2.2.2)) (c_T_timeoutOf l D cI cC E (a) (sd) (pd) (rk) (gp) (of) (to) (n) (f) (j + 1) hT hf (by first | omega | assumption)) cw_F_196 [1, 2, 3, 4, 5, 6, 7] [0, 8, 9] [0, 3, 4, 5, 6, 7, 8, 9, 1, 2] (qr := 0) rfl rfl rfl (of_decide_eq_true rfl) rfl (of_decide_eq_true rfl) rfl (of_decide_eq_true rfl) rfl (of_decide_eq_true rfl) rfl ⟨rfl, rfl⟩ ⟨by decide, by decide⟩ ⟨by decide, by decide⟩ rfl rfl (of_decide_eq_true rfl) d_F_writeLine_125 rfl ?_
      have b_5 := hto (f * 21 + (j + 1))
      refine V.callV_v C (n := 131) (ws2 := fun _ => (FtW o (a 0) dr sp (x 0) pr se ex) ++ (TabW a cI sd pd rk gp of to n) ++ (TxtW x cC ((numX (B2.1, B2.2.1, B2.2.2) (to (f * 21 + (j + 1)))).1) ((numX (B2.1, B2.2.1, B2.2.2) (to (f * 21 + (j + 1)))).2.1) ((numX (B2.1, B2.2.1, B2.2.2) (to (f * 21 + (j + 1)))).2.2))) (c_X_addNumber l D cI cC E (x) (B2.1) (B2.2.1) (B2.2.2) (to (f * 21 + (j + 1))) kB2 (by omega)) cw_F_183 [8, 9] [0, 1, 2, 3, 4, 5, 6, 7] [0, 1, 2, 3, 4, 5, 6, 7, 8, 9] (qr := 0) rfl rfl rfl (of_decide_eq_true rfl) rfl (of_decide_eq_true rfl) rfl (of_decide_eq_true rfl) (fun _ => rfl) (fun _ => of_decide_eq_true rfl) rfl ⟨rfl, rfl⟩ ⟨by decide, by decide⟩ ⟨by decide, by decide⟩ rfl rfl (of_decide_eq_true rfl) d_F_writeLine_128 rfl (fun _ _ => ?_)
      refine V.iinc C (n := 134) (j := 2) (v := nI (j + 1 + 1)) (lv' := [(0, .ref (o 0)), (1, .int (nI f)), (2, .int (nI (j + 1 + 1)))]) [1, 2, 0] d_F_writeLine_131 rfl (nI_inc (j + 1) 1) (by decide) rfl rfl ?_
      refine V.goto C (n := 71) d_F_writeLine_134 (by decide) ?_
      exact ih71 (j + 1) (numX B2 (to (f * 21 + (j + 1)))) ⟨by omega, by rw [rdX, if_pos (by omega), ← hq, hB2, hB1, hB0], numX_ok kB2⟩ (by omega)
set_option maxHeartbeats 4000000 in
set_option maxRecDepth 100000 in
theorem c_F_print (l : Launch) (D : va_G) (cI cC : ClassId) (E : Nat → Nat) (o a x : Nat → Nat) (dr sp pr se : Nat) (ex : Bool) (sg : Nat → Nat) (ln : Nat) (lo : Bool) (sd pd rk gp of to : Nat → Nat) (n : Nat) (hX0 : TxtOK sg ln) (hT : TabOK sd pd rk gp of to n) : CI l D (TY cI cC E) m_F_print (rmD 8) [.ref (o 0)] ((FtW o (a 0) dr sp (x 0) pr se ex) ++ (TabW a cI sd pd rk gp of to n) ++ (TxtW x cC sg ln lo)) (iI (if (prX sd pd rk gp to sg n).2.2 = true then -4 else (((prX sd pd rk gp to sg n).2.1 : Nat) : Int))) ((FtW o (a 0) dr sp (x 0) pr se ex) ++ (TabW a cI sd pd rk gp of to n) ++ (TxtW x cC ((prX sd pd rk gp to sg n).1) ((if (prX sd pd rk gp to sg n).2.2 = true then 0 else (prX sd pd rk gp to sg n).2.1)) false)) := by
  obtain ⟨hln, hsg⟩ := id hX0
  obtain ⟨hn, hsd, hpd, hrk, hgp, hof, hto⟩ := id hT
  refine CI.of (by decide +kernel) (of_decide_eq_true rfl) ?_
  intro p e s m args below meth c C hr
  refine V.aload_n C (n := 1) (j := 0) d_F_print_0 rfl rfl rfl ?_
  refine V.get C (n := 4) (q0 := 0) (k0 := 3) clOk_0 rfl (by decide) rfl fl_F_29 rfl d_F_print_1 rfl ?_
  refine V.callV_v C (n := 7) (ws2 := fun _ => (FtW o (a 0) dr sp (x 0) pr se ex) ++ (TabW a cI sd pd rk gp of to n) ++ (TxtW x cC sg 0 false)) (c_X_clear l D cI cC E (x) (sg) (ln) (lo) hX0) cw_F_142 [8, 9] [0, 1, 2, 3, 4, 5, 6, 7] [0, 1, 2, 3, 4, 5, 6, 7, 8, 9] (qr := 0) rfl rfl rfl (of_decide_eq_true rfl) rfl (of_decide_eq_true rfl) rfl (of_decide_eq_true rfl) (fun _ => rfl) (fun _ => of_decide_eq_true rfl) rfl ⟨rfl, rfl⟩ ⟨by decide, by decide⟩ ⟨by decide, by decide⟩ rfl rfl (of_decide_eq_true rfl) d_F_print_4 rfl (fun _ _ => ?_)
  refine V.iconst C (v := nI 1) (n := 8) d_F_print_7 (by decide) rfl ?_
  refine V.istore_n C (n := 9) (lv' := [(0, .ref (o 0)), (1, .int (nI 1))]) [1, 0] d_F_print_8 rfl (by decide) rfl rfl ?_
  refine V.ind2 C (fun (j : Nat) (T : TxS) => (FtW o (a 0) dr sp (x 0) pr se ex) ++ (TabW a cI sd pd rk gp of to n) ++ (TxtW x cC T.1 T.2.1 T.2.2)) (fun (j : Nat) (T : TxS) => [(0, .ref (o 0)), (1, .int (nI (j + 1)))]) (fun (j : Nat) (T : TxS) => (j ≤ n) ∧ (T = prX sd pd rk gp to sg j) ∧ (TxtOK T.1 T.2.1)) (fun (j : Nat) (T : TxS) => n - j) (0) ((sg, 0, false)) ⟨by omega, rfl, ⟨Nat.zero_le _, hsg⟩⟩ rfl rfl ?_
  rintro j T ⟨hj, hq, hTX⟩ ih9
  try dsimp only
  refine V.iload_n C (n := 10) (j := 1) d_F_print_9 rfl rfl rfl ?_
  refine V.aload_n C (n := 11) (j := 0) d_F_print_10 rfl rfl rfl ?_
  refine V.get C (n := 14) (q0 := 0) (k0 := 0) clOk_0 rfl (by decide) rfl fl_F_10 rfl d_F_print_11 rfl ?_
  refine V.callV_i C (n := 17) (ws' := (FtW o (a 0) dr sp (x 0) pr se ex) ++ (TabW a cI sd pd rk gp of to n) ++ (TxtW x cC T.1 T.2.1 T.2.2)) (c_T_size l D cI cC E (a) (sd) (pd) (rk) (gp) (of) (to) (n) hT) cw_F_127 [1, 2, 3, 4, 5, 6, 7] [0, 8, 9] [0, 3, 4, 5, 6, 7, 8, 9, 1, 2] (qr := 0) rfl rfl rfl (of_decide_eq_true rfl) rfl (of_decide_eq_true rfl) rfl (of_decide_eq_true rfl) rfl (of_decide_eq_true rfl) rfl ⟨rfl, rfl⟩ ⟨by decide, by decide⟩ ⟨by decide, by decide⟩ rfl rfl (of_decide_eq_true rfl) d_F_print_14 rfl ?_
  refine V.icmpn_gt C (tgt := 31) (n := 20) (by omega) (by omega) d_F_print_17 (by decide) rfl (fun c17_1 => ?_) (fun c17_1 => ?_)
  · have hPn : T = prX sd pd rk gp to sg n := by rw [hq, show j = n by omega]
    refine V.aload_n C (n := 32) (j := 0) d_F_print_31 rfl rfl rfl ?_
    refine V.get C (n := 35) (q0 := 0) (k0 := 3) clOk_0 rfl (by decide) rfl fl_F_29 rfl d_F_print_32 rfl ?_
    refine V.callV_i C (n := 38) (ws' := (FtW o (a 0) dr sp (x 0) pr se ex) ++ (TabW a cI sd pd rk gp of to n) ++ (TxtW x cC T.1 T.2.1 T.2.2)) (c_X_hasLostSigns l D cI cC E (x) (T.1) (T.2.1) (T.2.2) hTX) cw_F_149 [8, 9] [0, 1, 2, 3, 4, 5, 6, 7] [0, 1, 2, 3, 4, 5, 6, 7, 8, 9] (qr := 0) rfl rfl rfl (of_decide_eq_true rfl) rfl (of_decide_eq_true rfl) rfl (of_decide_eq_true rfl) rfl (of_decide_eq_true rfl) rfl ⟨rfl, rfl⟩ ⟨by decide, by decide⟩ ⟨by decide, by decide⟩ rfl rfl (of_decide_eq_true rfl) d_F_print_35 rfl ?_
    refine V.ifb_eq C (tgt := 51) (n := 41) d_F_print_38 (by decide) rfl (fun c38_2 => ?_) (fun c38_2 => ?_)
    · refine V.aload_n C (n := 52) (j := 0) d_F_print_51 rfl rfl rfl ?_
      refine V.get C (n := 55) (q0 := 0) (k0 := 3) clOk_0 rfl (by decide) rfl fl_F_29 rfl d_F_print_52 rfl ?_
      refine V.callV_i C (n := 58) (ws' := (FtW o (a 0) dr sp (x 0) pr se ex) ++ (TabW a cI sd pd rk gp of to n) ++ (TxtW x cC T.1 T.2.1 T.2.2)) (c_X_length l D cI cC E (x) (T.1) (T.2.1) (T.2.2) hTX) cw_F_152 [8, 9] [0, 1, 2, 3, 4, 5, 6, 7] [0, 1, 2, 3, 4, 5, 6, 7, 8, 9] (qr := 0) rfl rfl rfl (of_decide_eq_true rfl) rfl (of_decide_eq_true rfl) rfl (of_decide_eq_true rfl) rfl (of_decide_eq_true rfl) rfl ⟨rfl, rfl⟩ ⟨by decide, by decide⟩ ⟨by decide, by decide⟩ rfl rfl (of_decide_eq_true rfl) d_F_print_55 rfl ?_
      exact V.iret C hr d_F_print_58 (by rw [← hPn, if_neg (by assumption), iI_nat]) (by rw [← hPn, if_neg (by assumption), show T.2.2 = false from Bool.eq_false_iff.mpr (by assumption)])
    · refine V.aload_n C (n := 42) (j := 0) d_F_print_41 rfl rfl rfl ?_
      refine V.get C (n := 45) (q0 := 0) (k0 := 3) clOk_0 rfl (by decide) rfl fl_F_29 rfl d_F_print_42 rfl ?_
      refine V.callV_v C (n := 48) (ws2 := fun _ => (FtW o (a 0) dr sp (x 0) pr se ex) ++ (TabW a cI sd pd rk gp of to n) ++ (TxtW x cC T.1 0 false)) (c_X_clear l D cI cC E (x) (T.1) (T.2.1) (T.2.2) hTX) cw_F_142 [8, 9] [0, 1, 2, 3, 4, 5, 6, 7] [0, 1, 2, 3, 4, 5, 6, 7, 8, 9] (qr := 0) rfl rfl rfl (of_decide_eq_true rfl) rfl (of_decide_eq_true rfl) rfl (of_decide_eq_true rfl) (fun _ => rfl) (fun _ => of_decide_eq_true rfl) rfl ⟨rfl, rfl⟩ ⟨by decide, by decide⟩ ⟨by decide, by decide⟩ rfl rfl (of_decide_eq_true rfl) d_F_print_45 rfl (fun _ _ => ?_)
      refine V.bipush C (v := iI (-4)) (n := 50) d_F_print_48 (by decide) rfl ?_
      exact V.iret C hr d_F_print_50 (by rw [← hPn, if_pos (by assumption)]) (by rw [← hPn, if_pos (by assumption)])
  · refine V.aload_n C (n := 21) (j := 0) d_F_print_20 rfl rfl rfl ?_
    refine V.iload_n C (n := 22) (j := 1) d_F_print_21 rfl rfl rfl ?_
    refine V.callV_v C (n := 25) (ws2 := fun _ => (FtW o (a 0) dr sp (x 0) pr se ex) ++ (TabW a cI sd pd rk gp of to n) ++ (TxtW x cC ((lnX sd pd rk gp to (j + 1) (T.1, T.2.1, T.2.2)).1) ((lnX sd pd rk gp to (j + 1) (T.1, T.2.1, T.2.2)).2.1) ((lnX sd pd rk gp to (j + 1) (T.1, T.2.1, T.2.2)).2.2))) (c_F_writeLine l D cI cC E (o) (a) (x) (dr) (sp) (pr) (se) (ex) (T.1) (T.2.1) (T.2.2) (sd) (pd) (rk) (gp) (of) (to) (n) (j + 1) hTX hT (by omega)) cw_F_145 [0, 1, 2, 3, 4, 5, 6, 7, 8, 9] [] [0, 1, 2, 3, 4, 5, 6, 7, 8, 9] (qr := 0) rfl rfl rfl (of_decide_eq_true rfl) rfl (of_decide_eq_true rfl) rfl (of_decide_eq_true rfl) (fun _ => rfl) (fun _ => of_decide_eq_true rfl) rfl ⟨rfl, rfl⟩ ⟨by decide, by decide⟩ ⟨by decide, by decide⟩ rfl rfl (of_decide_eq_true rfl) d_F_print_22 rfl (fun _ _ => ?_)
    refine V.iinc C (n := 28) (j := 1) (v := nI (j + 1 + 1)) (lv' := [(0, .ref (o 0)), (1, .int (nI (j + 1 + 1)))]) [1, 0] d_F_print_25 rfl (nI_inc (j + 1) 1) (by decide) rfl rfl ?_
    refine V.goto C (n := 9) d_F_print_28 (by decide) ?_
    exact ih9 (j + 1) (lnX sd pd rk gp to (j + 1) T) ⟨by omega, by rw [hq]; try rfl, lnX_ok hTX⟩ (by omega)
end
section
def fi0 : Nat → Nat := updN (updN (updN (updN zF 0 (0 * 512)) 1 (1 * 512)) 2 (2 * 512)) 3 (3 * 512)
def la0 : Nat → Nat := updN (updN (updN (updN zF 0 (511)) 1 (1023)) 2 (1535)) 3 (2047)
end
section
set_option maxHeartbeats 4000000 in
set_option maxRecDepth 100000 in
theorem c_T_init (l : Launch) (D : va_G) (cI cC : ClassId) (E : Nat → Nat) (a0 : Nat) : CN l D (TY cI cC E) m_T_init (rmA 1 6 1066) [.ref a0] ([(a0, .inr (1, [.null, .null, .null, .null, .null, .null, .int (nI 0)]))]) (fun u : Nat → Nat => u 0 = a0) (fun u => TabW u cI zF zF zF zF zF zF 0) 6 1066 := by
  refine CN.of (by decide +kernel) (of_decide_eq_true rfl) ?_
  intro p e s m args below meth c C hr hin
  refine V.aload_n C (n := 1) (j := 0) d_T_init_0 rfl rfl rfl ?_
  refine V.objInit C (n := 4) oi_T (of_decide_eq_true rfl) (of_decide_eq_true rfl) d_T_init_1 rfl ?_
  refine V.aload_n C (n := 5) (j := 0) d_T_init_4 rfl rfl rfl ?_
  refine V.bipush C (v := nI 41) (n := 7) d_T_init_5 (by decide) rfl ?_
  refine V.newarr C (n := 9) (N := 41) (a0 := (41, .inl (fun j => nI (zF j)))) (t0 := 0) ac_int rfl rfl (fun _ => rfl) (fun _ h => by cases h) (by decide) (by decide) (by decide) (by decide) d_T_init_7 rfl (fun q7 => ?_)
  refine V.wo C (ws' := [(a0, .inr (1, [.null, .null, .null, .null, .null, .null, .int (nI 0)]))] ++ [(q7, .inl (cI, 41, .inl (fun j => nI ((zF) j))))]) rfl ?_
  refine V.putF C (n := 12) (q0 := 0) (k0 := 0) (ws' := [(a0, .inr (1, [.ref q7, .null, .null, .null, .null, .null, .int (nI 0)]))] ++ [(q7, .inl (cI, 41, .inl (fun j => nI ((zF) j))))]) hin rfl clOk_1 rfl (by decide) rfl rfl fl_T_9 rfl rfl (of_decide_eq_true rfl) rfl d_T_init_9 rfl ?_
  refine V.aload_n C (n := 13) (j := 0) d_T_init_12 rfl rfl rfl ?_
  refine V.bipush C (v := nI 41) (n := 15) d_T_init_13 (by decide) rfl ?_
  refine V.newarr C (n := 17) (N := 41) (a0 := (41, .inl (fun j => nI (zF j)))) (t0 := 0) ac_int rfl rfl (fun _ => rfl) (fun _ h => by cases h) (by decide) (by decide) (by decide) (by decide) d_T_init_15 rfl (fun q15 => ?_)
  refine V.wo C (ws' := [(a0, .inr (1, [.ref q7, .null, .null, .null, .null, .null, .int (nI 0)]))] ++ [(q7, .inl (cI, 41, .inl (fun j => nI ((zF) j))))] ++ [(q15, .inl (cI, 41, .inl (fun j => nI ((zF) j))))]) rfl ?_
  refine V.putF C (n := 20) (q0 := 0) (k0 := 1) (ws' := [(a0, .inr (1, [.ref q7, .ref q15, .null, .null, .null, .null, .int (nI 0)]))] ++ [(q7, .inl (cI, 41, .inl (fun j => nI ((zF) j))))] ++ [(q15, .inl (cI, 41, .inl (fun j => nI ((zF) j))))]) hin rfl clOk_1 rfl (by decide) rfl rfl fl_T_15 rfl rfl (of_decide_eq_true rfl) rfl d_T_init_17 rfl ?_
  refine V.aload_n C (n := 21) (j := 0) d_T_init_20 rfl rfl rfl ?_
  refine V.bipush C (v := nI 41) (n := 23) d_T_init_21 (by decide) rfl ?_
  refine V.newarr C (n := 25) (N := 41) (a0 := (41, .inl (fun j => nI (zF j)))) (t0 := 0) ac_int rfl rfl (fun _ => rfl) (fun _ h => by cases h) (by decide) (by decide) (by decide) (by decide) d_T_init_23 rfl (fun q23 => ?_)
  refine V.wo C (ws' := [(a0, .inr (1, [.ref q7, .ref q15, .null, .null, .null, .null, .int (nI 0)]))] ++ [(q7, .inl (cI, 41, .inl (fun j => nI ((zF) j))))] ++ [(q15, .inl (cI, 41, .inl (fun j => nI ((zF) j))))] ++ [(q23, .inl (cI, 41, .inl (fun j => nI ((zF) j))))]) rfl ?_
  refine V.putF C (n := 28) (q0 := 0) (k0 := 2) (ws' := [(a0, .inr (1, [.ref q7, .ref q15, .ref q23, .null, .null, .null, .int (nI 0)]))] ++ [(q7, .inl (cI, 41, .inl (fun j => nI ((zF) j))))] ++ [(q15, .inl (cI, 41, .inl (fun j => nI ((zF) j))))] ++ [(q23, .inl (cI, 41, .inl (fun j => nI ((zF) j))))]) hin rfl clOk_1 rfl (by decide) rfl rfl fl_T_18 rfl rfl (of_decide_eq_true rfl) rfl d_T_init_25 rfl ?_
  refine V.aload_n C (n := 29) (j := 0) d_T_init_28 rfl rfl rfl ?_
  refine V.bipush C (v := nI 41) (n := 31) d_T_init_29 (by decide) rfl ?_
  refine V.newarr C (n := 33) (N := 41) (a0 := (41, .inl (fun j => nI (zF j)))) (t0 := 0) ac_int rfl rfl (fun _ => rfl) (fun _ h => by cases h) (by decide) (by decide) (by decide) (by decide) d_T_init_31 rfl (fun q31 => ?_)
  refine V.wo C (ws' := [(a0, .inr (1, [.ref q7, .ref q15, .ref q23, .null, .null, .null, .int (nI 0)]))] ++ [(q7, .inl (cI, 41, .inl (fun j => nI ((zF) j))))] ++ [(q15, .inl (cI, 41, .inl (fun j => nI ((zF) j))))] ++ [(q23, .inl (cI, 41, .inl (fun j => nI ((zF) j))))] ++ [(q31, .inl (cI, 41, .inl (fun j => nI ((zF) j))))]) rfl ?_
  refine V.putF C (n := 36) (q0 := 0) (k0 := 3) (ws' := [(a0, .inr (1, [.ref q7, .ref q15, .ref q23, .ref q31, .null, .null, .int (nI 0)]))] ++ [(q7, .inl (cI, 41, .inl (fun j => nI ((zF) j))))] ++ [(q15, .inl (cI, 41, .inl (fun j => nI ((zF) j))))] ++ [(q23, .inl (cI, 41, .inl (fun j => nI ((zF) j))))] ++ [(q31, .inl (cI, 41, .inl (fun j => nI ((zF) j))))]) hin rfl clOk_1 rfl (by decide) rfl rfl fl_T_21 rfl rfl (of_decide_eq_true rfl) rfl d_T_init_33 rfl ?_
  refine V.aload_n C (n := 37) (j := 0) d_T_init_36 rfl rfl rfl ?_
  refine V.bipush C (v := nI 41) (n := 39) d_T_init_37 (by decide) rfl ?_
  refine V.newarr C (n := 41) (N := 41) (a0 := (41, .inl (fun j => nI (zF j)))) (t0 := 0) ac_int rfl rfl (fun _ => rfl) (fun _ h => by cases h) (by decide) (by decide) (by decide) (by decide) d_T_init_39 rfl (fun q39 => ?_)
  refine V.wo C (ws' := [(a0, .inr (1, [.ref q7, .ref q15, .ref q23, .ref q31, .null, .null, .int (nI 0)]))] ++ [(q7, .inl (cI, 41, .inl (fun j => nI ((zF) j))))] ++ [(q15, .inl (cI, 41, .inl (fun j => nI ((zF) j))))] ++ [(q23, .inl (cI, 41, .inl (fun j => nI ((zF) j))))] ++ [(q31, .inl (cI, 41, .inl (fun j => nI ((zF) j))))] ++ [(q39, .inl (cI, 41, .inl (fun j => nI ((zF) j))))]) rfl ?_
  refine V.putF C (n := 44) (q0 := 0) (k0 := 4) (ws' := [(a0, .inr (1, [.ref q7, .ref q15, .ref q23, .ref q31, .ref q39, .null, .int (nI 0)]))] ++ [(q7, .inl (cI, 41, .inl (fun j => nI ((zF) j))))] ++ [(q15, .inl (cI, 41, .inl (fun j => nI ((zF) j))))] ++ [(q23, .inl (cI, 41, .inl (fun j => nI ((zF) j))))] ++ [(q31, .inl (cI, 41, .inl (fun j => nI ((zF) j))))] ++ [(q39, .inl (cI, 41, .inl (fun j => nI ((zF) j))))]) hin rfl clOk_1 rfl (by decide) rfl rfl fl_T_24 rfl rfl (of_decide_eq_true rfl) rfl d_T_init_41 rfl ?_
  refine V.aload_n C (n := 45) (j := 0) d_T_init_44 rfl rfl rfl ?_
  refine V.sipush C (v := nI 861) (n := 48) d_T_init_45 (by decide) rfl ?_
  refine V.newarr C (n := 50) (N := 861) (a0 := (861, .inl (fun j => nI (zF j)))) (t0 := 0) ac_int rfl rfl (fun _ => rfl) (fun _ h => by cases h) (by decide) (by decide) (by decide) (by decide) d_T_init_48 rfl (fun q48 => ?_)
  refine V.wo C (ws' := [(a0, .inr (1, [.ref q7, .ref q15, .ref q23, .ref q31, .ref q39, .null, .int (nI 0)]))] ++ [(q7, .inl (cI, 41, .inl (fun j => nI ((zF) j))))] ++ [(q15, .inl (cI, 41, .inl (fun j => nI ((zF) j))))] ++ [(q23, .inl (cI, 41, .inl (fun j => nI ((zF) j))))] ++ [(q31, .inl (cI, 41, .inl (fun j => nI ((zF) j))))] ++ [(q39, .inl (cI, 41, .inl (fun j => nI ((zF) j))))] ++ [(q48, .inl (cI, 861, .inl (fun j => nI ((zF) j))))]) rfl ?_
  refine V.putF C (n := 53) (q0 := 0) (k0 := 5) (ws' := [(a0, .inr (1, [.ref q7, .ref q15, .ref q23, .ref q31, .ref q39, .ref q48, .int (nI 0)]))] ++ [(q7, .inl (cI, 41, .inl (fun j => nI ((zF) j))))] ++ [(q15, .inl (cI, 41, .inl (fun j => nI ((zF) j))))] ++ [(q23, .inl (cI, 41, .inl (fun j => nI ((zF) j))))] ++ [(q31, .inl (cI, 41, .inl (fun j => nI ((zF) j))))] ++ [(q39, .inl (cI, 41, .inl (fun j => nI ((zF) j))))] ++ [(q48, .inl (cI, 861, .inl (fun j => nI ((zF) j))))]) hin rfl clOk_1 rfl (by decide) rfl rfl fl_T_27 rfl rfl (of_decide_eq_true rfl) rfl d_T_init_50 rfl ?_
  refine V.aload_n C (n := 54) (j := 0) d_T_init_53 rfl rfl rfl ?_
  refine V.iconst C (v := nI 0) (n := 55) d_T_init_54 (by decide) rfl ?_
  refine V.put C (n := 58) (q0 := 0) (k0 := 6) (ws' := [(a0, .inr (1, [.ref q7, .ref q15, .ref q23, .ref q31, .ref q39, .ref q48, .int (nI 0)]))] ++ [(q7, .inl (cI, 41, .inl (fun j => nI ((zF) j))))] ++ [(q15, .inl (cI, 41, .inl (fun j => nI ((zF) j))))] ++ [(q23, .inl (cI, 41, .inl (fun j => nI ((zF) j))))] ++ [(q31, .inl (cI, 41, .inl (fun j => nI ((zF) j))))] ++ [(q39, .inl (cI, 41, .inl (fun j => nI ((zF) j))))] ++ [(q48, .inl (cI, 861, .inl (fun j => nI ((zF) j))))]) clOk_1 rfl (by decide) rfl rfl fl_T_30 rfl rfl (of_decide_eq_true rfl) rfl d_T_init_55 rfl ?_
  exact V.vret C hr d_T_init_58 (adr [a0, q7, q15, q23, q31, q39, q48]) (rfl) (rfl)
set_option maxHeartbeats 4000000 in
set_option maxRecDepth 100000 in
theorem c_S_init (l : Launch) (D : va_G) (cI cC : ClassId) (E : Nat → Nat) (a0 : Nat) : CN l D (TY cI cC E) m_S_init (rmA 1 2 8) [.ref a0] ([(a0, .inr (2, [.null, .null]))]) (fun u : Nat → Nat => u 0 = a0) (fun u => SpnW u cI fi0 la0) 2 8 := by
  refine CN.of (by decide +kernel) (of_decide_eq_true rfl) ?_
  intro p e s m args below meth c C hr hin
  refine V.aload_n C (n := 1) (j := 0) d_S_init_0 rfl rfl rfl ?_
  refine V.objInit C (n := 4) oi_S (of_decide_eq_true rfl) (of_decide_eq_true rfl) d_S_init_1 rfl ?_
  refine V.aload_n C (n := 5) (j := 0) d_S_init_4 rfl rfl rfl ?_
  refine V.iconst C (v := nI 4) (n := 6) d_S_init_5 (by decide) rfl ?_
  refine V.newarr C (n := 8) (N := 4) (a0 := (4, .inl (fun j => nI (zF j)))) (t0 := 0) ac_int rfl rfl (fun _ => rfl) (fun _ h => by cases h) (by decide) (by decide) (by decide) (by decide) d_S_init_6 rfl (fun q6 => ?_)
  refine V.wo C (ws' := [(a0, .inr (2, [.null, .null]))] ++ [(q6, .inl (cI, 4, .inl (fun j => nI ((zF) j))))]) rfl ?_
  refine V.putF C (n := 11) (q0 := 0) (k0 := 0) (ws' := [(a0, .inr (2, [.ref q6, .null]))] ++ [(q6, .inl (cI, 4, .inl (fun j => nI ((zF) j))))]) hin rfl clOk_2 rfl (by decide) rfl rfl fl_S_9 rfl rfl (of_decide_eq_true rfl) rfl d_S_init_8 rfl ?_
  refine V.aload_n C (n := 12) (j := 0) d_S_init_11 rfl rfl rfl ?_
  refine V.iconst C (v := nI 4) (n := 13) d_S_init_12 (by decide) rfl ?_
  refine V.newarr C (n := 15) (N := 4) (a0 := (4, .inl (fun j => nI (zF j)))) (t0 := 0) ac_int rfl rfl (fun _ => rfl) (fun _ h => by cases h) (by decide) (by decide) (by decide) (by decide) d_S_init_13 rfl (fun q13 => ?_)
  refine V.wo C (ws' := [(a0, .inr (2, [.ref q6, .null]))] ++ [(q6, .inl (cI, 4, .inl (fun j => nI ((zF) j))))] ++ [(q13, .inl (cI, 4, .inl (fun j => nI ((zF) j))))]) rfl ?_
  refine V.putF C (n := 18) (q0 := 0) (k0 := 1) (ws' := [(a0, .inr (2, [.ref q6, .ref q13]))] ++ [(q6, .inl (cI, 4, .inl (fun j => nI ((zF) j))))] ++ [(q13, .inl (cI, 4, .inl (fun j => nI ((zF) j))))]) hin rfl clOk_2 rfl (by decide) rfl rfl fl_S_15 rfl rfl (of_decide_eq_true rfl) rfl d_S_init_15 rfl ?_
  refine V.iconst C (v := nI 0) (n := 19) d_S_init_18 (by decide) rfl ?_
  refine V.istore_n C (n := 20) (lv' := [(0, .ref a0), (1, .int (nI 0))]) [1, 0] d_S_init_19 rfl (by decide) rfl rfl ?_
  refine V.iload_n C (n := 21) (j := 1) d_S_init_20 rfl rfl rfl ?_
  refine V.iconst C (v := nI 4) (n := 22) d_S_init_21 (by decide) rfl ?_
  refine V.icmpn_ge C (tgt := 60) (n := 25) (by omega) (by omega) d_S_init_22 (by decide) rfl (fun c22_1 => ?_) (fun c22_1 => ?_)
  · exact absurd c22_1 (by decide)
  · refine V.aload_n C (n := 26) (j := 0) d_S_init_25 rfl rfl rfl ?_
    refine V.get C (n := 29) (q0 := 0) (k0 := 0) clOk_2 rfl (by decide) rfl fl_S_9 rfl d_S_init_26 rfl ?_
    refine V.iload_n C (n := 30) (j := 1) d_S_init_29 rfl rfl rfl ?_
    refine V.iload_n C (n := 31) (j := 1) d_S_init_30 rfl rfl rfl ?_
    refine V.sipush C (v := nI 512) (n := 34) d_S_init_31 (by decide) rfl ?_
    refine V.imul_n C (n := 35) d_S_init_34 rfl ?_
    refine V.iastore_n C (n := 36) (q0 := 1) (t0 := 0) (i := 0) (ws' := [(a0, .inr (2, [.ref q6, .ref q13]))] ++ [(q6, .inl (cI, 4, .inl (fun j => nI ((updN zF 0 (0 * 512)) j))))] ++ [(q13, .inl (cI, 4, .inl (fun j => nI ((zF) j))))]) rfl rfl (by omega) (by decide) rfl d_S_init_35 rfl ?_
    refine V.aload_n C (n := 37) (j := 0) d_S_init_36 rfl rfl rfl ?_
    refine V.get C (n := 40) (q0 := 0) (k0 := 1) clOk_2 rfl (by decide) rfl fl_S_15 rfl d_S_init_37 rfl ?_
    refine V.iload_n C (n := 41) (j := 1) d_S_init_40 rfl rfl rfl ?_
    refine V.aload_n C (n := 42) (j := 0) d_S_init_41 rfl rfl rfl ?_
    refine V.get C (n := 45) (q0 := 0) (k0 := 0) clOk_2 rfl (by decide) rfl fl_S_9 rfl d_S_init_42 rfl ?_
    refine V.iload_n C (n := 46) (j := 1) d_S_init_45 rfl rfl rfl ?_
    refine V.iaload_n C (n := 47) (q0 := 1) (t0 := 0) (i := 0) rfl rfl (by omega) (by decide) d_S_init_46 rfl ?_
    refine V.sipush C (v := nI 512) (n := 50) d_S_init_47 (by decide) rfl ?_
    refine V.iadd_n C (n := 51) d_S_init_50 rfl ?_
    refine V.iconst C (v := nI 1) (n := 52) d_S_init_51 (by decide) rfl ?_
    refine V.isub_n C (n := 53) d_S_init_52 (by omega) rfl ?_
    refine V.iastore_n C (n := 54) (q0 := 2) (t0 := 0) (i := 0) (ws' := [(a0, .inr (2, [.ref q6, .ref q13]))] ++ [(q6, .inl (cI, 4, .inl (fun j => nI ((updN zF 0 (0 * 512)) j))))] ++ [(q13, .inl (cI, 4, .inl (fun j => nI ((updN zF 0 ((((updN zF 0 (0 * 512)) 0) + 512) - 1)) j))))]) rfl rfl (by omega) (by decide) rfl d_S_init_53 rfl ?_
    refine V.iinc C (n := 57) (j := 1) (v := nI 1) (lv' := [(0, .ref a0), (1, .int (nI 1))]) [1, 0] d_S_init_54 rfl (by decide) (by decide) rfl rfl ?_
    refine V.goto C (n := 20) d_S_init_57 (by decide) ?_
    refine V.iload_n C (n := 21) (j := 1) d_S_init_20 rfl rfl rfl ?_
    refine V.iconst C (v := nI 4) (n := 22) d_S_init_21 (by decide) rfl ?_
    refine V.icmpn_ge C (tgt := 60) (n := 25) (by omega) (by omega) d_S_init_22 (by decide) rfl (fun c22_2 => ?_) (fun c22_2 => ?_)
    · exact absurd c22_2 (by decide)
    · refine V.aload_n C (n := 26) (j := 0) d_S_init_25 rfl rfl rfl ?_
      refine V.get C (n := 29) (q0 := 0) (k0 := 0) clOk_2 rfl (by decide) rfl fl_S_9 rfl d_S_init_26 rfl ?_
      refine V.iload_n C (n := 30) (j := 1) d_S_init_29 rfl rfl rfl ?_
      refine V.iload_n C (n := 31) (j := 1) d_S_init_30 rfl rfl rfl ?_
      refine V.sipush C (v := nI 512) (n := 34) d_S_init_31 (by decide) rfl ?_
      refine V.imul_n C (n := 35) d_S_init_34 rfl ?_
      refine V.iastore_n C (n := 36) (q0 := 1) (t0 := 0) (i := 1) (ws' := [(a0, .inr (2, [.ref q6, .ref q13]))] ++ [(q6, .inl (cI, 4, .inl (fun j => nI ((updN (updN zF 0 (0 * 512)) 1 (1 * 512)) j))))] ++ [(q13, .inl (cI, 4, .inl (fun j => nI ((updN zF 0 ((((updN zF 0 (0 * 512)) 0) + 512) - 1)) j))))]) rfl rfl (by omega) (by decide) rfl d_S_init_35 rfl ?_
      refine V.aload_n C (n := 37) (j := 0) d_S_init_36 rfl rfl rfl ?_
      refine V.get C (n := 40) (q0 := 0) (k0 := 1) clOk_2 rfl (by decide) rfl fl_S_15 rfl d_S_init_37 rfl ?_
      refine V.iload_n C (n := 41) (j := 1) d_S_init_40 rfl rfl rfl ?_
      refine V.aload_n C (n := 42) (j := 0) d_S_init_41 rfl rfl rfl ?_
      refine V.get C (n := 45) (q0 := 0) (k0 := 0) clOk_2 rfl (by decide) rfl fl_S_9 rfl d_S_init_42 rfl ?_
      refine V.iload_n C (n := 46) (j := 1) d_S_init_45 rfl rfl rfl ?_
      refine V.iaload_n C (n := 47) (q0 := 1) (t0 := 0) (i := 1) rfl rfl (by omega) (by decide) d_S_init_46 rfl ?_
      refine V.sipush C (v := nI 512) (n := 50) d_S_init_47 (by decide) rfl ?_
      refine V.iadd_n C (n := 51) d_S_init_50 rfl ?_
      refine V.iconst C (v := nI 1) (n := 52) d_S_init_51 (by decide) rfl ?_
      refine V.isub_n C (n := 53) d_S_init_52 (by omega) rfl ?_
      refine V.iastore_n C (n := 54) (q0 := 2) (t0 := 0) (i := 1) (ws' := [(a0, .inr (2, [.ref q6, .ref q13]))] ++ [(q6, .inl (cI, 4, .inl (fun j => nI ((updN (updN zF 0 (0 * 512)) 1 (1 * 512)) j))))] ++ [(q13, .inl (cI, 4, .inl (fun j => nI ((updN (updN zF 0 ((((updN zF 0 (0 * 512)) 0) + 512) - 1)) 1 ((((updN (updN zF 0 (0 * 512)) 1 (1 * 512)) 1) + 512) - 1)) j))))]) rfl rfl (by omega) (by decide) rfl d_S_init_53 rfl ?_
      refine V.iinc C (n := 57) (j := 1) (v := nI 2) (lv' := [(0, .ref a0), (1, .int (nI 2))]) [1, 0] d_S_init_54 rfl (by decide) (by decide) rfl rfl ?_
      refine V.goto C (n := 20) d_S_init_57 (by decide) ?_
      refine V.iload_n C (n := 21) (j := 1) d_S_init_20 rfl rfl rfl ?_
      refine V.iconst C (v := nI 4) (n := 22) d_S_init_21 (by decide) rfl ?_
      refine V.icmpn_ge C (tgt := 60) (n := 25) (by omega) (by omega) d_S_init_22 (by decide) rfl (fun c22_3 => ?_) (fun c22_3 => ?_)
      · exact absurd c22_3 (by decide)
      · refine V.aload_n C (n := 26) (j := 0) d_S_init_25 rfl rfl rfl ?_
        refine V.get C (n := 29) (q0 := 0) (k0 := 0) clOk_2 rfl (by decide) rfl fl_S_9 rfl d_S_init_26 rfl ?_
        refine V.iload_n C (n := 30) (j := 1) d_S_init_29 rfl rfl rfl ?_
        refine V.iload_n C (n := 31) (j := 1) d_S_init_30 rfl rfl rfl ?_
        refine V.sipush C (v := nI 512) (n := 34) d_S_init_31 (by decide) rfl ?_
        refine V.imul_n C (n := 35) d_S_init_34 rfl ?_
        refine V.iastore_n C (n := 36) (q0 := 1) (t0 := 0) (i := 2) (ws' := [(a0, .inr (2, [.ref q6, .ref q13]))] ++ [(q6, .inl (cI, 4, .inl (fun j => nI ((updN (updN (updN zF 0 (0 * 512)) 1 (1 * 512)) 2 (2 * 512)) j))))] ++ [(q13, .inl (cI, 4, .inl (fun j => nI ((updN (updN zF 0 ((((updN zF 0 (0 * 512)) 0) + 512) - 1)) 1 ((((updN (updN zF 0 (0 * 512)) 1 (1 * 512)) 1) + 512) - 1)) j))))]) rfl rfl (by omega) (by decide) rfl d_S_init_35 rfl ?_
        refine V.aload_n C (n := 37) (j := 0) d_S_init_36 rfl rfl rfl ?_
        refine V.get C (n := 40) (q0 := 0) (k0 := 1) clOk_2 rfl (by decide) rfl fl_S_15 rfl d_S_init_37 rfl ?_
        refine V.iload_n C (n := 41) (j := 1) d_S_init_40 rfl rfl rfl ?_
        refine V.aload_n C (n := 42) (j := 0) d_S_init_41 rfl rfl rfl ?_
        refine V.get C (n := 45) (q0 := 0) (k0 := 0) clOk_2 rfl (by decide) rfl fl_S_9 rfl d_S_init_42 rfl ?_
        refine V.iload_n C (n := 46) (j := 1) d_S_init_45 rfl rfl rfl ?_
        refine V.iaload_n C (n := 47) (q0 := 1) (t0 := 0) (i := 2) rfl rfl (by omega) (by decide) d_S_init_46 rfl ?_
        refine V.sipush C (v := nI 512) (n := 50) d_S_init_47 (by decide) rfl ?_
        refine V.iadd_n C (n := 51) d_S_init_50 rfl ?_
        refine V.iconst C (v := nI 1) (n := 52) d_S_init_51 (by decide) rfl ?_
        refine V.isub_n C (n := 53) d_S_init_52 (by omega) rfl ?_
        refine V.iastore_n C (n := 54) (q0 := 2) (t0 := 0) (i := 2) (ws' := [(a0, .inr (2, [.ref q6, .ref q13]))] ++ [(q6, .inl (cI, 4, .inl (fun j => nI ((updN (updN (updN zF 0 (0 * 512)) 1 (1 * 512)) 2 (2 * 512)) j))))] ++ [(q13, .inl (cI, 4, .inl (fun j => nI ((updN (updN (updN zF 0 ((((updN zF 0 (0 * 512)) 0) + 512) - 1)) 1 ((((updN (updN zF 0 (0 * 512)) 1 (1 * 512)) 1) + 512) - 1)) 2 ((((updN (updN (updN zF 0 (0 * 512)) 1 (1 * 512)) 2 (2 * 512)) 2) + 512) - 1)) j))))]) rfl rfl (by omega) (by decide) rfl d_S_init_53 rfl ?_
        refine V.iinc C (n := 57) (j := 1) (v := nI 3) (lv' := [(0, .ref a0), (1, .int (nI 3))]) [1, 0] d_S_init_54 rfl (by decide) (by decide) rfl rfl ?_
        refine V.goto C (n := 20) d_S_init_57 (by decide) ?_
        refine V.iload_n C (n := 21) (j := 1) d_S_init_20 rfl rfl rfl ?_
        refine V.iconst C (v := nI 4) (n := 22) d_S_init_21 (by decide) rfl ?_
        refine V.icmpn_ge C (tgt := 60) (n := 25) (by omega) (by omega) d_S_init_22 (by decide) rfl (fun c22_4 => ?_) (fun c22_4 => ?_)
        · exact absurd c22_4 (by decide)
        · refine V.aload_n C (n := 26) (j := 0) d_S_init_25 rfl rfl rfl ?_
          refine V.get C (n := 29) (q0 := 0) (k0 := 0) clOk_2 rfl (by decide) rfl fl_S_9 rfl d_S_init_26 rfl ?_
          refine V.iload_n C (n := 30) (j := 1) d_S_init_29 rfl rfl rfl ?_
          refine V.iload_n C (n := 31) (j := 1) d_S_init_30 rfl rfl rfl ?_
          refine V.sipush C (v := nI 512) (n := 34) d_S_init_31 (by decide) rfl ?_
          refine V.imul_n C (n := 35) d_S_init_34 rfl ?_
          refine V.iastore_n C (n := 36) (q0 := 1) (t0 := 0) (i := 3) (ws' := [(a0, .inr (2, [.ref q6, .ref q13]))] ++ [(q6, .inl (cI, 4, .inl (fun j => nI ((updN (updN (updN (updN zF 0 (0 * 512)) 1 (1 * 512)) 2 (2 * 512)) 3 (3 * 512)) j))))] ++ [(q13, .inl (cI, 4, .inl (fun j => nI ((updN (updN (updN zF 0 ((((updN zF 0 (0 * 512)) 0) + 512) - 1)) 1 ((((updN (updN zF 0 (0 * 512)) 1 (1 * 512)) 1) + 512) - 1)) 2 ((((updN (updN (updN zF 0 (0 * 512)) 1 (1 * 512)) 2 (2 * 512)) 2) + 512) - 1)) j))))]) rfl rfl (by omega) (by decide) rfl d_S_init_35 rfl ?_
          refine V.aload_n C (n := 37) (j := 0) d_S_init_36 rfl rfl rfl ?_
          refine V.get C (n := 40) (q0 := 0) (k0 := 1) clOk_2 rfl (by decide) rfl fl_S_15 rfl d_S_init_37 rfl ?_
          refine V.iload_n C (n := 41) (j := 1) d_S_init_40 rfl rfl rfl ?_
          refine V.aload_n C (n := 42) (j := 0) d_S_init_41 rfl rfl rfl ?_
          refine V.get C (n := 45) (q0 := 0) (k0 := 0) clOk_2 rfl (by decide) rfl fl_S_9 rfl d_S_init_42 rfl ?_
          refine V.iload_n C (n := 46) (j := 1) d_S_init_45 rfl rfl rfl ?_
          refine V.iaload_n C (n := 47) (q0 := 1) (t0 := 0) (i := 3) rfl rfl (by omega) (by decide) d_S_init_46 rfl ?_
          refine V.sipush C (v := nI 512) (n := 50) d_S_init_47 (by decide) rfl ?_
          refine V.iadd_n C (n := 51) d_S_init_50 rfl ?_
          refine V.iconst C (v := nI 1) (n := 52) d_S_init_51 (by decide) rfl ?_
          refine V.isub_n C (n := 53) d_S_init_52 (by omega) rfl ?_
          refine V.iastore_n C (n := 54) (q0 := 2) (t0 := 0) (i := 3) (ws' := [(a0, .inr (2, [.ref q6, .ref q13]))] ++ [(q6, .inl (cI, 4, .inl (fun j => nI ((updN (updN (updN (updN zF 0 (0 * 512)) 1 (1 * 512)) 2 (2 * 512)) 3 (3 * 512)) j))))] ++ [(q13, .inl (cI, 4, .inl (fun j => nI ((updN (updN (updN (updN zF 0 ((((updN zF 0 (0 * 512)) 0) + 512) - 1)) 1 ((((updN (updN zF 0 (0 * 512)) 1 (1 * 512)) 1) + 512) - 1)) 2 ((((updN (updN (updN zF 0 (0 * 512)) 1 (1 * 512)) 2 (2 * 512)) 2) + 512) - 1)) 3 ((((updN (updN (updN (updN zF 0 (0 * 512)) 1 (1 * 512)) 2 (2 * 512)) 3 (3 * 512)) 3) + 512) - 1)) j))))]) rfl rfl (by omega) (by decide) rfl d_S_init_53 rfl ?_
          refine V.iinc C (n := 57) (j := 1) (v := nI 4) (lv' := [(0, .ref a0), (1, .int (nI 4))]) [1, 0] d_S_init_54 rfl (by decide) (by decide) rfl rfl ?_
          refine V.goto C (n := 20) d_S_init_57 (by decide) ?_
          refine V.iload_n C (n := 21) (j := 1) d_S_init_20 rfl rfl rfl ?_
          refine V.iconst C (v := nI 4) (n := 22) d_S_init_21 (by decide) rfl ?_
          refine V.icmpn_ge C (tgt := 60) (n := 25) (by omega) (by omega) d_S_init_22 (by decide) rfl (fun c22_5 => ?_) (fun c22_5 => ?_)
          · exact V.vret C hr d_S_init_60 (adr [a0, q6, q13]) (rfl) (rfl)
          · exact absurd c22_5 (by decide)
set_option maxHeartbeats 4000000 in
set_option maxRecDepth 100000 in
theorem c_X_init (l : Launch) (D : va_G) (cI cC : ClassId) (E : Nat → Nat) (a0 : Nat) : CN l D (TY cI cC E) m_X_init (rmA 1 1 2000) [.ref a0] ([(a0, .inr (3, [.null, .int (nI 0), .int (nI 0)]))]) (fun u : Nat → Nat => u 0 = a0) (fun u => TxtW u cC zF 0 false) 1 2000 := by
  refine CN.of (by decide +kernel) (of_decide_eq_true rfl) ?_
  intro p e s m args below meth c C hr hin
  refine V.aload_n C (n := 1) (j := 0) d_X_init_0 rfl rfl rfl ?_
  refine V.objInit C (n := 4) oi_X (of_decide_eq_true rfl) (of_decide_eq_true rfl) d_X_init_1 rfl ?_
  refine V.aload_n C (n := 5) (j := 0) d_X_init_4 rfl rfl rfl ?_
  refine V.sipush C (v := nI 2000) (n := 8) d_X_init_5 (by decide) rfl ?_
  refine V.newarr C (n := 10) (N := 2000) (a0 := (2000, .inl (fun j => nI (zF j)))) (t0 := 1) ac_char rfl rfl (fun _ => rfl) (fun _ h => by cases h) (by decide) (by decide) (by decide) (by decide) d_X_init_8 rfl (fun q8 => ?_)
  refine V.wo C (ws' := [(a0, .inr (3, [.null, .int (nI 0), .int (nI 0)]))] ++ [(q8, .inl (cC, 2000, .inl (fun j => nI ((zF) j))))]) rfl ?_
  refine V.putF C (n := 13) (q0 := 0) (k0 := 0) (ws' := [(a0, .inr (3, [.ref q8, .int (nI 0), .int (nI 0)]))] ++ [(q8, .inl (cC, 2000, .inl (fun j => nI ((zF) j))))]) hin rfl clOk_3 rfl (by decide) rfl rfl fl_X_9 rfl rfl (of_decide_eq_true rfl) rfl d_X_init_10 rfl ?_
  refine V.aload_n C (n := 14) (j := 0) d_X_init_13 rfl rfl rfl ?_
  refine V.iconst C (v := nI 0) (n := 15) d_X_init_14 (by decide) rfl ?_
  refine V.put C (n := 18) (q0 := 0) (k0 := 1) (ws' := [(a0, .inr (3, [.ref q8, .int (nI 0), .int (nI 0)]))] ++ [(q8, .inl (cC, 2000, .inl (fun j => nI ((zF) j))))]) clOk_3 rfl (by decide) rfl rfl fl_X_15 rfl rfl (of_decide_eq_true rfl) rfl d_X_init_15 rfl ?_
  refine V.aload_n C (n := 19) (j := 0) d_X_init_18 rfl rfl rfl ?_
  refine V.iconst C (v := nI 0) (n := 20) d_X_init_19 (by decide) rfl ?_
  refine V.cv C (y := bI (false = true)) (bI_0 (by decide)) ?_
  refine V.put C (n := 23) (q0 := 0) (k0 := 2) (ws' := [(a0, .inr (3, [.ref q8, .int (nI 0), .int (bI (false = true))]))] ++ [(q8, .inl (cC, 2000, .inl (fun j => nI ((zF) j))))]) clOk_3 rfl (by decide) rfl rfl fl_X_19 (bI_nar _) (bI_fit _) (of_decide_eq_true rfl) rfl d_X_init_20 rfl ?_
  exact V.vret C hr d_X_init_23 (adr [a0, q8]) (rfl) (rfl)
set_option maxHeartbeats 4000000 in
set_option maxRecDepth 100000 in
theorem c_P_init (l : Launch) (D : va_G) (cI cC : ClassId) (E : Nat → Nat) (a0 tx : Nat) : CN l D (TY cI cC E) m_P_init (rmA 1 0 0) [.ref a0, .ref tx] ([(a0, .inr (4, [.null, .int (nI 0), .int (nI 0), .int (nI 0)]))]) (fun u : Nat → Nat => u 0 = a0) (fun u => ParW u tx 0 0 0) 0 0 := by
  refine CN.of (by decide +kernel) (of_decide_eq_true rfl) ?_
  intro p e s m args below meth c C hr hin
  refine V.aload_n C (n := 1) (j := 0) d_P_init_0 rfl rfl rfl ?_
  refine V.objInit C (n := 4) oi_P (of_decide_eq_true rfl) (of_decide_eq_true rfl) d_P_init_1 rfl ?_
  refine V.aload_n C (n := 5) (j := 0) d_P_init_4 rfl rfl rfl ?_
  refine V.iconst C (v := nI 0) (n := 6) d_P_init_5 (by decide) rfl ?_
  refine V.put C (n := 9) (q0 := 0) (k0 := 1) (ws' := [(a0, .inr (4, [.null, .int (nI 0), .int (nI 0), .int (nI 0)]))]) clOk_4 rfl (by decide) rfl rfl fl_P_9 rfl rfl (of_decide_eq_true rfl) rfl d_P_init_6 rfl ?_
  refine V.aload_n C (n := 10) (j := 0) d_P_init_9 rfl rfl rfl ?_
  refine V.iconst C (v := nI 0) (n := 11) d_P_init_10 (by decide) rfl ?_
  refine V.put C (n := 14) (q0 := 0) (k0 := 2) (ws' := [(a0, .inr (4, [.null, .int (nI 0), .int (nI 0), .int (nI 0)]))]) clOk_4 rfl (by decide) rfl rfl fl_P_15 rfl rfl (of_decide_eq_true rfl) rfl d_P_init_11 rfl ?_
  refine V.aload_n C (n := 15) (j := 0) d_P_init_14 rfl rfl rfl ?_
  refine V.iconst C (v := nI 0) (n := 16) d_P_init_15 (by decide) rfl ?_
  refine V.put C (n := 19) (q0 := 0) (k0 := 3) (ws' := [(a0, .inr (4, [.null, .int (nI 0), .int (nI 0), .int (nI 0)]))]) clOk_4 rfl (by decide) rfl rfl fl_P_18 rfl rfl (of_decide_eq_true rfl) rfl d_P_init_16 rfl ?_
  refine V.aload_n C (n := 20) (j := 0) d_P_init_19 rfl rfl rfl ?_
  refine V.aload_n C (n := 21) (j := 1) d_P_init_20 rfl rfl rfl ?_
  refine V.putF C (n := 24) (q0 := 0) (k0 := 0) (ws' := [(a0, .inr (4, [.ref tx, .int (nI 0), .int (nI 0), .int (nI 0)]))]) hin rfl clOk_4 rfl (by decide) rfl rfl fl_P_21 rfl rfl (of_decide_eq_true rfl) rfl d_P_init_21 rfl ?_
  exact V.vret C hr d_P_init_24 (adr [a0]) (rfl) (rfl)
set_option maxHeartbeats 4000000 in
set_option maxRecDepth 100000 in
theorem c_Q_init (l : Launch) (D : va_G) (cI cC : ClassId) (E : Nat → Nat) (a0 : Nat) : CN l D (TY cI cC E) m_Q_init (rmA 1 6 620) [.ref a0] ([(a0, .inr (5, [.null, .null, .null, .null, .null, .null, .int (nI 0), .int (nI 0), .int (nI 0)]))]) (fun u : Nat → Nat => u 0 = a0) (fun u => SeaW u cI zF zF zF zF zF zF 0 (-1) 0) 6 620 := by
  refine CN.of (by decide +kernel) (of_decide_eq_true rfl) ?_
  intro p e s m args below meth c C hr hin
  refine V.aload_n C (n := 1) (j := 0) d_Q_init_0 rfl rfl rfl ?_
  refine V.objInit C (n := 4) oi_Q (of_decide_eq_true rfl) (of_decide_eq_true rfl) d_Q_init_1 rfl ?_
  refine V.aload_n C (n := 5) (j := 0) d_Q_init_4 rfl rfl rfl ?_
  refine V.bipush C (v := nI 40) (n := 7) d_Q_init_5 (by decide) rfl ?_
  refine V.newarr C (n := 9) (N := 40) (a0 := (40, .inl (fun j => nI (zF j)))) (t0 := 0) ac_int rfl rfl (fun _ => rfl) (fun _ h => by cases h) (by decide) (by decide) (by decide) (by decide) d_Q_init_7 rfl (fun q7 => ?_)
  refine V.wo C (ws' := [(a0, .inr (5, [.null, .null, .null, .null, .null, .null, .int (nI 0), .int (nI 0), .int (nI 0)]))] ++ [(q7, .inl (cI, 40, .inl (fun j => nI ((zF) j))))]) rfl ?_
  refine V.putF C (n := 12) (q0 := 0) (k0 := 0) (ws' := [(a0, .inr (5, [.ref q7, .null, .null, .null, .null, .null, .int (nI 0), .int (nI 0), .int (nI 0)]))] ++ [(q7, .inl (cI, 40, .inl (fun j => nI ((zF) j))))]) hin rfl clOk_5 rfl (by decide) rfl rfl fl_Q_9 rfl rfl (of_decide_eq_true rfl) rfl d_Q_init_9 rfl ?_
  refine V.aload_n C (n := 13) (j := 0) d_Q_init_12 rfl rfl rfl ?_
  refine V.bipush C (v := nI 40) (n := 15) d_Q_init_13 (by decide) rfl ?_
  refine V.newarr C (n := 17) (N := 40) (a0 := (40, .inl (fun j => nI (zF j)))) (t0 := 0) ac_int rfl rfl (fun _ => rfl) (fun _ h => by cases h) (by decide) (by decide) (by decide) (by decide) d_Q_init_15 rfl (fun q15 => ?_)
  refine V.wo C (ws' := [(a0, .inr (5, [.ref q7, .null, .null, .null, .null, .null, .int (nI 0), .int (nI 0), .int (nI 0)]))] ++ [(q7, .inl (cI, 40, .inl (fun j => nI ((zF) j))))] ++ [(q15, .inl (cI, 40, .inl (fun j => nI ((zF) j))))]) rfl ?_
  refine V.putF C (n := 20) (q0 := 0) (k0 := 1) (ws' := [(a0, .inr (5, [.ref q7, .ref q15, .null, .null, .null, .null, .int (nI 0), .int (nI 0), .int (nI 0)]))] ++ [(q7, .inl (cI, 40, .inl (fun j => nI ((zF) j))))] ++ [(q15, .inl (cI, 40, .inl (fun j => nI ((zF) j))))]) hin rfl clOk_5 rfl (by decide) rfl rfl fl_Q_15 rfl rfl (of_decide_eq_true rfl) rfl d_Q_init_17 rfl ?_
  refine V.aload_n C (n := 21) (j := 0) d_Q_init_20 rfl rfl rfl ?_
  refine V.bipush C (v := nI 40) (n := 23) d_Q_init_21 (by decide) rfl ?_
  refine V.newarr C (n := 25) (N := 40) (a0 := (40, .inl (fun j => nI (zF j)))) (t0 := 0) ac_int rfl rfl (fun _ => rfl) (fun _ h => by cases h) (by decide) (by decide) (by decide) (by decide) d_Q_init_23 rfl (fun q23 => ?_)
  refine V.wo C (ws' := [(a0, .inr (5, [.ref q7, .ref q15, .null, .null, .null, .null, .int (nI 0), .int (nI 0), .int (nI 0)]))] ++ [(q7, .inl (cI, 40, .inl (fun j => nI ((zF) j))))] ++ [(q15, .inl (cI, 40, .inl (fun j => nI ((zF) j))))] ++ [(q23, .inl (cI, 40, .inl (fun j => nI ((zF) j))))]) rfl ?_
  refine V.putF C (n := 28) (q0 := 0) (k0 := 2) (ws' := [(a0, .inr (5, [.ref q7, .ref q15, .ref q23, .null, .null, .null, .int (nI 0), .int (nI 0), .int (nI 0)]))] ++ [(q7, .inl (cI, 40, .inl (fun j => nI ((zF) j))))] ++ [(q15, .inl (cI, 40, .inl (fun j => nI ((zF) j))))] ++ [(q23, .inl (cI, 40, .inl (fun j => nI ((zF) j))))]) hin rfl clOk_5 rfl (by decide) rfl rfl fl_Q_18 rfl rfl (of_decide_eq_true rfl) rfl d_Q_init_25 rfl ?_
  refine V.aload_n C (n := 29) (j := 0) d_Q_init_28 rfl rfl rfl ?_
  refine V.bipush C (v := nI 40) (n := 31) d_Q_init_29 (by decide) rfl ?_
  refine V.newarr C (n := 33) (N := 40) (a0 := (40, .inl (fun j => nI (zF j)))) (t0 := 0) ac_int rfl rfl (fun _ => rfl) (fun _ h => by cases h) (by decide) (by decide) (by decide) (by decide) d_Q_init_31 rfl (fun q31 => ?_)
  refine V.wo C (ws' := [(a0, .inr (5, [.ref q7, .ref q15, .ref q23, .null, .null, .null, .int (nI 0), .int (nI 0), .int (nI 0)]))] ++ [(q7, .inl (cI, 40, .inl (fun j => nI ((zF) j))))] ++ [(q15, .inl (cI, 40, .inl (fun j => nI ((zF) j))))] ++ [(q23, .inl (cI, 40, .inl (fun j => nI ((zF) j))))] ++ [(q31, .inl (cI, 40, .inl (fun j => nI ((zF) j))))]) rfl ?_
  refine V.putF C (n := 36) (q0 := 0) (k0 := 3) (ws' := [(a0, .inr (5, [.ref q7, .ref q15, .ref q23, .ref q31, .null, .null, .int (nI 0), .int (nI 0), .int (nI 0)]))] ++ [(q7, .inl (cI, 40, .inl (fun j => nI ((zF) j))))] ++ [(q15, .inl (cI, 40, .inl (fun j => nI ((zF) j))))] ++ [(q23, .inl (cI, 40, .inl (fun j => nI ((zF) j))))] ++ [(q31, .inl (cI, 40, .inl (fun j => nI ((zF) j))))]) hin rfl clOk_5 rfl (by decide) rfl rfl fl_Q_21 rfl rfl (of_decide_eq_true rfl) rfl d_Q_init_33 rfl ?_
  refine V.aload_n C (n := 37) (j := 0) d_Q_init_36 rfl rfl rfl ?_
  refine V.bipush C (v := nI 40) (n := 39) d_Q_init_37 (by decide) rfl ?_
  refine V.newarr C (n := 41) (N := 40) (a0 := (40, .inl (fun j => nI (zF j)))) (t0 := 0) ac_int rfl rfl (fun _ => rfl) (fun _ h => by cases h) (by decide) (by decide) (by decide) (by decide) d_Q_init_39 rfl (fun q39 => ?_)
  refine V.wo C (ws' := [(a0, .inr (5, [.ref q7, .ref q15, .ref q23, .ref q31, .null, .null, .int (nI 0), .int (nI 0), .int (nI 0)]))] ++ [(q7, .inl (cI, 40, .inl (fun j => nI ((zF) j))))] ++ [(q15, .inl (cI, 40, .inl (fun j => nI ((zF) j))))] ++ [(q23, .inl (cI, 40, .inl (fun j => nI ((zF) j))))] ++ [(q31, .inl (cI, 40, .inl (fun j => nI ((zF) j))))] ++ [(q39, .inl (cI, 40, .inl (fun j => nI ((zF) j))))]) rfl ?_
  refine V.putF C (n := 44) (q0 := 0) (k0 := 4) (ws' := [(a0, .inr (5, [.ref q7, .ref q15, .ref q23, .ref q31, .ref q39, .null, .int (nI 0), .int (nI 0), .int (nI 0)]))] ++ [(q7, .inl (cI, 40, .inl (fun j => nI ((zF) j))))] ++ [(q15, .inl (cI, 40, .inl (fun j => nI ((zF) j))))] ++ [(q23, .inl (cI, 40, .inl (fun j => nI ((zF) j))))] ++ [(q31, .inl (cI, 40, .inl (fun j => nI ((zF) j))))] ++ [(q39, .inl (cI, 40, .inl (fun j => nI ((zF) j))))]) hin rfl clOk_5 rfl (by decide) rfl rfl fl_Q_24 rfl rfl (of_decide_eq_true rfl) rfl d_Q_init_41 rfl ?_
  refine V.aload_n C (n := 45) (j := 0) d_Q_init_44 rfl rfl rfl ?_
  refine V.sipush C (v := nI 420) (n := 48) d_Q_init_45 (by decide) rfl ?_
  refine V.newarr C (n := 50) (N := 420) (a0 := (420, .inl (fun j => nI (zF j)))) (t0 := 0) ac_int rfl rfl (fun _ => rfl) (fun _ h => by cases h) (by decide) (by decide) (by decide) (by decide) d_Q_init_48 rfl (fun q48 => ?_)
  refine V.wo C (ws' := [(a0, .inr (5, [.ref q7, .ref q15, .ref q23, .ref q31, .ref q39, .null, .int (nI 0), .int (nI 0), .int (nI 0)]))] ++ [(q7, .inl (cI, 40, .inl (fun j => nI ((zF) j))))] ++ [(q15, .inl (cI, 40, .inl (fun j => nI ((zF) j))))] ++ [(q23, .inl (cI, 40, .inl (fun j => nI ((zF) j))))] ++ [(q31, .inl (cI, 40, .inl (fun j => nI ((zF) j))))] ++ [(q39, .inl (cI, 40, .inl (fun j => nI ((zF) j))))] ++ [(q48, .inl (cI, 420, .inl (fun j => nI ((zF) j))))]) rfl ?_
  refine V.putF C (n := 53) (q0 := 0) (k0 := 5) (ws' := [(a0, .inr (5, [.ref q7, .ref q15, .ref q23, .ref q31, .ref q39, .ref q48, .int (nI 0), .int (nI 0), .int (nI 0)]))] ++ [(q7, .inl (cI, 40, .inl (fun j => nI ((zF) j))))] ++ [(q15, .inl (cI, 40, .inl (fun j => nI ((zF) j))))] ++ [(q23, .inl (cI, 40, .inl (fun j => nI ((zF) j))))] ++ [(q31, .inl (cI, 40, .inl (fun j => nI ((zF) j))))] ++ [(q39, .inl (cI, 40, .inl (fun j => nI ((zF) j))))] ++ [(q48, .inl (cI, 420, .inl (fun j => nI ((zF) j))))]) hin rfl clOk_5 rfl (by decide) rfl rfl fl_Q_27 rfl rfl (of_decide_eq_true rfl) rfl d_Q_init_50 rfl ?_
  refine V.aload_n C (n := 54) (j := 0) d_Q_init_53 rfl rfl rfl ?_
  refine V.iconst C (v := nI 0) (n := 55) d_Q_init_54 (by decide) rfl ?_
  refine V.put C (n := 58) (q0 := 0) (k0 := 6) (ws' := [(a0, .inr (5, [.ref q7, .ref q15, .ref q23, .ref q31, .ref q39, .ref q48, .int (nI 0), .int (nI 0), .int (nI 0)]))] ++ [(q7, .inl (cI, 40, .inl (fun j => nI ((zF) j))))] ++ [(q15, .inl (cI, 40, .inl (fun j => nI ((zF) j))))] ++ [(q23, .inl (cI, 40, .inl (fun j => nI ((zF) j))))] ++ [(q31, .inl (cI, 40, .inl (fun j => nI ((zF) j))))] ++ [(q39, .inl (cI, 40, .inl (fun j => nI ((zF) j))))] ++ [(q48, .inl (cI, 420, .inl (fun j => nI ((zF) j))))]) clOk_5 rfl (by decide) rfl rfl fl_Q_30 rfl rfl (of_decide_eq_true rfl) rfl d_Q_init_55 rfl ?_
  refine V.aload_n C (n := 59) (j := 0) d_Q_init_58 rfl rfl rfl ?_
  refine V.iconst C (v := iI (-1)) (n := 60) d_Q_init_59 (by decide) rfl ?_
  refine V.put C (n := 63) (q0 := 0) (k0 := 7) (ws' := [(a0, .inr (5, [.ref q7, .ref q15, .ref q23, .ref q31, .ref q39, .ref q48, .int (nI 0), .int (iI (-1)), .int (nI 0)]))] ++ [(q7, .inl (cI, 40, .inl (fun j => nI ((zF) j))))] ++ [(q15, .inl (cI, 40, .inl (fun j => nI ((zF) j))))] ++ [(q23, .inl (cI, 40, .inl (fun j => nI ((zF) j))))] ++ [(q31, .inl (cI, 40, .inl (fun j => nI ((zF) j))))] ++ [(q39, .inl (cI, 40, .inl (fun j => nI ((zF) j))))] ++ [(q48, .inl (cI, 420, .inl (fun j => nI ((zF) j))))]) clOk_5 rfl (by decide) rfl rfl fl_Q_34 rfl rfl (of_decide_eq_true rfl) rfl d_Q_init_60 rfl ?_
  refine V.aload_n C (n := 64) (j := 0) d_Q_init_63 rfl rfl rfl ?_
  refine V.iconst C (v := nI 0) (n := 65) d_Q_init_64 (by decide) rfl ?_
  refine V.put C (n := 68) (q0 := 0) (k0 := 8) (ws' := [(a0, .inr (5, [.ref q7, .ref q15, .ref q23, .ref q31, .ref q39, .ref q48, .int (nI 0), .int (iI (-1)), .int (nI 0)]))] ++ [(q7, .inl (cI, 40, .inl (fun j => nI ((zF) j))))] ++ [(q15, .inl (cI, 40, .inl (fun j => nI ((zF) j))))] ++ [(q23, .inl (cI, 40, .inl (fun j => nI ((zF) j))))] ++ [(q31, .inl (cI, 40, .inl (fun j => nI ((zF) j))))] ++ [(q39, .inl (cI, 40, .inl (fun j => nI ((zF) j))))] ++ [(q48, .inl (cI, 420, .inl (fun j => nI ((zF) j))))]) clOk_5 rfl (by decide) rfl rfl fl_Q_37 rfl rfl (of_decide_eq_true rfl) rfl d_Q_init_65 rfl ?_
  exact V.vret C hr d_Q_init_68 (adr [a0, q7, q15, q23, q31, q39, q48]) (rfl) (rfl)
set_option maxHeartbeats 4000000 in
set_option maxRecDepth 100000 in
theorem c_F_init (l : Launch) (D : va_G) (cI cC : ClassId) (E : Nat → Nat) (o : Nat → Nat) : CN l D (TY cI cC E) m_F_init (rmA 2 27 4792) [.ref (o 0)] ([(o 0, .inr (0, [.null, .null, .null, .null, .null, .null, .int (nI 0)]))]) (fun u : (Nat → Nat) × (Nat → Nat) × (Nat → Nat) × (Nat → Nat) × (Nat → Nat) × (Nat → Nat) => True) (fun u => FtW o (u.1 0) (u.2.1 0) (u.2.2.1 0) (u.2.2.2.1 0) (u.2.2.2.2.1 0) (u.2.2.2.2.2 0) false ++ TabW u.1 cI zF zF zF zF zF zF 0 ++ TabW u.2.1 cI zF zF zF zF zF zF 0 ++ SpnW u.2.2.1 cI fi0 la0 ++ TxtW u.2.2.2.1 cC zF 0 false ++ ParW u.2.2.2.2.1 (u.2.2.2.1 0) 0 0 0 ++ SeaW u.2.2.2.2.2 cI zF zF zF zF zF zF 0 (-1) 0) 27 4792 := by
  refine CN.of (by decide +kernel) (of_decide_eq_true rfl) ?_
  intro p e s m args below meth c C hr hin
  refine V.aload_n C (n := 1) (j := 0) d_F_init_0 rfl rfl rfl ?_
  refine V.objInit C (n := 4) oi_F (of_decide_eq_true rfl) (of_decide_eq_true rfl) d_F_init_1 rfl ?_
  refine V.aload_n C (n := 5) (j := 0) d_F_init_4 rfl rfl rfl ?_
  refine V.new C (n := 8) (fs := [.null, .null, .null, .null, .null, .null, .int (nI 0)]) clOk_1 nw_F_7 (fun j hj => by rcases (show j = 0 ∨ j = 1 ∨ j = 2 ∨ j = 3 ∨ j = 4 ∨ j = 5 ∨ j = 6 by omega) with rfl | rfl | rfl | rfl | rfl | rfl | rfl <;> rfl) (by decide) (by decide) d_F_init_5 rfl (fun q5 => ?_)
  refine V.wo C (ws' := [(o 0, .inr (0, [.null, .null, .null, .null, .null, .null, .int (nI 0)]))] ++ [(q5, .inr (1, [.null, .null, .null, .null, .null, .null, .int (nI 0)]))]) rfl ?_
  refine V.dup C (n := 9) d_F_init_8 rfl rfl ?_
  refine V.callIN_v C (n := 12) (ws2 := fun u9 => [(o 0, .inr (0, [.null, .null, .null, .null, .null, .null, .int (nI 0)]))] ++ (TabW u9 cI zF zF zF zF zF zF 0)) (c_T_init l D cI cC E (q5) ) cw_F_9 [1] [0] [0, 1, 2, 3, 4, 5, 6, 7] rfl rfl (of_decide_eq_true rfl) rfl (of_decide_eq_true rfl) rfl (of_decide_eq_true rfl) (fun _ => rfl) (fun _ => of_decide_eq_true rfl) rfl ⟨rfl, rfl⟩ ⟨by decide, by decide⟩ ⟨by decide, by decide⟩ rfl rfl (of_decide_eq_true rfl) d_F_init_9 rfl (fun u9 hu9 => ?_)
  subst hu9
  refine V.put C (n := 15) (q0 := 0) (k0 := 0) (ws' := [(o 0, .inr (0, [.ref (u9 0), .null, .null, .null, .null, .null, .int (nI 0)]))] ++ (TabW u9 cI zF zF zF zF zF zF 0)) clOk_0 rfl (by decide) rfl rfl fl_F_10 rfl rfl (of_decide_eq_true rfl) rfl d_F_init_12 rfl ?_
  refine V.aload_n C (n := 16) (j := 0) d_F_init_15 rfl rfl rfl ?_
  refine V.new C (n := 19) (fs := [.null, .null, .null, .null, .null, .null, .int (nI 0)]) clOk_1 nw_F_7 (fun j hj => by rcases (show j = 0 ∨ j = 1 ∨ j = 2 ∨ j = 3 ∨ j = 4 ∨ j = 5 ∨ j = 6 by omega) with rfl | rfl | rfl | rfl | rfl | rfl | rfl <;> rfl) (by decide) (by decide) d_F_init_16 rfl (fun q16 => ?_)
  refine V.wo C (ws' := [(o 0, .inr (0, [.ref (u9 0), .null, .null, .null, .null, .null, .int (nI 0)]))] ++ (TabW u9 cI zF zF zF zF zF zF 0) ++ [(q16, .inr (1, [.null, .null, .null, .null, .null, .null, .int (nI 0)]))]) rfl ?_
  refine V.dup C (n := 20) d_F_init_19 rfl rfl ?_
  refine V.callIN_v C (n := 23) (ws2 := fun u20 => [(o 0, .inr (0, [.ref (u9 0), .null, .null, .null, .null, .null, .int (nI 0)]))] ++ (TabW u9 cI zF zF zF zF zF zF 0) ++ (TabW u20 cI zF zF zF zF zF zF 0)) (c_T_init l D cI cC E (q16) ) cw_F_9 [8] [0, 1, 2, 3, 4, 5, 6, 7] [0, 1, 2, 3, 4, 5, 6, 7, 8, 9, 10, 11, 12, 13, 14] rfl rfl (of_decide_eq_true rfl) rfl (of_decide_eq_true rfl) rfl (of_decide_eq_true rfl) (fun _ => rfl) (fun _ => of_decide_eq_true rfl) rfl ⟨rfl, rfl⟩ ⟨by decide, by decide⟩ ⟨by decide, by decide⟩ rfl rfl (of_decide_eq_true rfl) d_F_init_20 rfl (fun u20 hu20 => ?_)
  subst hu20
  refine V.put C (n := 26) (q0 := 0) (k0 := 1) (ws' := [(o 0, .inr (0, [.ref (u9 0), .ref (u20 0), .null, .null, .null, .null, .int (nI 0)]))] ++ (TabW u9 cI zF zF zF zF zF zF 0) ++ (TabW u20 cI zF zF zF zF zF zF 0)) clOk_0 rfl (by decide) rfl rfl fl_F_16 rfl rfl (of_decide_eq_true rfl) rfl d_F_init_23 rfl ?_
  refine V.aload_n C (n := 27) (j := 0) d_F_init_26 rfl rfl rfl ?_
  refine V.new C (n := 30) (fs := [.null, .null]) clOk_2 nw_F_19 (fun j hj => by rcases (show j = 0 ∨ j = 1 by omega) with rfl | rfl <;> rfl) (by decide) (by decide) d_F_init_27 rfl (fun q27 => ?_)
  refine V.wo C (ws' := [(o 0, .inr (0, [.ref (u9 0), .ref (u20 0), .null, .null, .null, .null, .int (nI 0)]))] ++ (TabW u9 cI zF zF zF zF zF zF 0) ++ (TabW u20 cI zF zF zF zF zF zF 0) ++ [(q27, .inr (2, [.null, .null]))]) rfl ?_
  refine V.dup C (n := 31) d_F_init_30 rfl rfl ?_
  refine V.callI_v C (n := 34) (ws2 := fun u31 => [(o 0, .inr (0, [.ref (u9 0), .ref (u20 0), .null, .null, .null, .null, .int (nI 0)]))] ++ (TabW u9 cI zF zF zF zF zF zF 0) ++ (TabW u20 cI zF zF zF zF zF zF 0) ++ (SpnW u31 cI fi0 la0)) (c_S_init l D cI cC E (q27) ) cw_F_21 [15] [0, 1, 2, 3, 4, 5, 6, 7, 8, 9, 10, 11, 12, 13, 14] [0, 1, 2, 3, 4, 5, 6, 7, 8, 9, 10, 11, 12, 13, 14, 15, 16, 17] rfl rfl (of_decide_eq_true rfl) rfl (of_decide_eq_true rfl) rfl (of_decide_eq_true rfl) (fun _ => rfl) (fun _ => of_decide_eq_true rfl) rfl ⟨rfl, rfl⟩ ⟨by decide, by decide⟩ ⟨by decide, by decide⟩ rfl rfl (of_decide_eq_true rfl) d_F_init_31 rfl (fun u31 hu31 => ?_)
  subst hu31
  refine V.putF C (n := 37) (q0 := 0) (k0 := 2) (ws' := [(o 0, .inr (0, [.ref (u9 0), .ref (u20 0), .ref (u31 0), .null, .null, .null, .int (nI 0)]))] ++ (TabW u9 cI zF zF zF zF zF zF 0) ++ (TabW u20 cI zF zF zF zF zF zF 0) ++ (SpnW u31 cI fi0 la0)) hin rfl clOk_0 rfl (by decide) rfl rfl fl_F_22 rfl rfl (of_decide_eq_true rfl) rfl d_F_init_34 rfl ?_
  refine V.aload_n C (n := 38) (j := 0) d_F_init_37 rfl rfl rfl ?_
  refine V.new C (n := 41) (fs := [.null, .int (nI 0), .int (nI 0)]) clOk_3 nw_F_26 (fun j hj => by rcases (show j = 0 ∨ j = 1 ∨ j = 2 by omega) with rfl | rfl | rfl <;> rfl) (by decide) (by decide) d_F_init_38 rfl (fun q38 => ?_)
  refine V.wo C (ws' := [(o 0, .inr (0, [.ref (u9 0), .ref (u20 0), .ref (u31 0), .null, .null, .null, .int (nI 0)]))] ++ (TabW u9 cI zF zF zF zF zF zF 0) ++ (TabW u20 cI zF zF zF zF zF zF 0) ++ (SpnW u31 cI fi0 la0) ++ [(q38, .inr (3, [.null, .int (nI 0), .int (nI 0)]))]) rfl ?_
  refine V.dup C (n := 42) d_F_init_41 rfl rfl ?_
  refine V.callIN_v C (n := 45) (ws2 := fun u42 => [(o 0, .inr (0, [.ref (u9 0), .ref (u20 0), .ref (u31 0), .null, .null, .null, .int (nI 0)]))] ++ (TabW u9 cI zF zF zF zF zF zF 0) ++ (TabW u20 cI zF zF zF zF zF zF 0) ++ (SpnW u31 cI fi0 la0) ++ (TxtW u42 cC zF 0 false)) (c_X_init l D cI cC E (q38) ) cw_F_28 [18] [0, 1, 2, 3, 4, 5, 6, 7, 8, 9, 10, 11, 12, 13, 14, 15, 16, 17] [0, 1, 2, 3, 4, 5, 6, 7, 8, 9, 10, 11, 12, 13, 14, 15, 16, 17, 18, 19] rfl rfl (of_decide_eq_true rfl) rfl (of_decide_eq_true rfl) rfl (of_decide_eq_true rfl) (fun _ => rfl) (fun _ => of_decide_eq_true rfl) rfl ⟨rfl, rfl⟩ ⟨by decide, by decide⟩ ⟨by decide, by decide⟩ rfl rfl (of_decide_eq_true rfl) d_F_init_42 rfl (fun u42 hu42 => ?_)
  subst hu42
  refine V.putF C (n := 48) (q0 := 0) (k0 := 3) (ws' := [(o 0, .inr (0, [.ref (u9 0), .ref (u20 0), .ref (u31 0), .ref (u42 0), .null, .null, .int (nI 0)]))] ++ (TabW u9 cI zF zF zF zF zF zF 0) ++ (TabW u20 cI zF zF zF zF zF zF 0) ++ (SpnW u31 cI fi0 la0) ++ (TxtW u42 cC zF 0 false)) hin rfl clOk_0 rfl (by decide) rfl rfl fl_F_29 rfl rfl (of_decide_eq_true rfl) rfl d_F_init_45 rfl ?_
  refine V.aload_n C (n := 49) (j := 0) d_F_init_48 rfl rfl rfl ?_
  refine V.new C (n := 52) (fs := [.null, .int (nI 0), .int (nI 0), .int (nI 0)]) clOk_4 nw_F_33 (fun j hj => by rcases (show j = 0 ∨ j = 1 ∨ j = 2 ∨ j = 3 by omega) with rfl | rfl | rfl | rfl <;> rfl) (by decide) (by decide) d_F_init_49 rfl (fun q49 => ?_)
  refine V.wo C (ws' := [(o 0, .inr (0, [.ref (u9 0), .ref (u20 0), .ref (u31 0), .ref (u42 0), .null, .null, .int (nI 0)]))] ++ (TabW u9 cI zF zF zF zF zF zF 0) ++ (TabW u20 cI zF zF zF zF zF zF 0) ++ (SpnW u31 cI fi0 la0) ++ (TxtW u42 cC zF 0 false) ++ [(q49, .inr (4, [.null, .int (nI 0), .int (nI 0), .int (nI 0)]))]) rfl ?_
  refine V.dup C (n := 53) d_F_init_52 rfl rfl ?_
  refine V.aload_n C (n := 54) (j := 0) d_F_init_53 rfl rfl rfl ?_
  refine V.get C (n := 57) (q0 := 0) (k0 := 3) clOk_0 rfl (by decide) rfl fl_F_29 rfl d_F_init_54 rfl ?_
  refine V.callI_v C (n := 60) (ws2 := fun u57 => [(o 0, .inr (0, [.ref (u9 0), .ref (u20 0), .ref (u31 0), .ref (u42 0), .null, .null, .int (nI 0)]))] ++ (TabW u9 cI zF zF zF zF zF zF 0) ++ (TabW u20 cI zF zF zF zF zF zF 0) ++ (SpnW u31 cI fi0 la0) ++ (TxtW u42 cC zF 0 false) ++ (ParW u57 (u42 0) 0 0 0)) (c_P_init l D cI cC E (q49) (u42 0)) cw_F_35 [20] [0, 1, 2, 3, 4, 5, 6, 7, 8, 9, 10, 11, 12, 13, 14, 15, 16, 17, 18, 19] [0, 1, 2, 3, 4, 5, 6, 7, 8, 9, 10, 11, 12, 13, 14, 15, 16, 17, 18, 19, 20] rfl rfl (of_decide_eq_true rfl) rfl (of_decide_eq_true rfl) rfl (of_decide_eq_true rfl) (fun _ => rfl) (fun _ => of_decide_eq_true rfl) rfl ⟨rfl, rfl⟩ ⟨by decide, by decide⟩ ⟨by decide, by decide⟩ rfl rfl (of_decide_eq_true rfl) d_F_init_57 rfl (fun u57 hu57 => ?_)
  subst hu57
  refine V.putF C (n := 63) (q0 := 0) (k0 := 4) (ws' := [(o 0, .inr (0, [.ref (u9 0), .ref (u20 0), .ref (u31 0), .ref (u42 0), .ref (u57 0), .null, .int (nI 0)]))] ++ (TabW u9 cI zF zF zF zF zF zF 0) ++ (TabW u20 cI zF zF zF zF zF zF 0) ++ (SpnW u31 cI fi0 la0) ++ (TxtW u42 cC zF 0 false) ++ (ParW u57 (u42 0) 0 0 0)) hin rfl clOk_0 rfl (by decide) rfl rfl fl_F_38 rfl rfl (of_decide_eq_true rfl) rfl d_F_init_60 rfl ?_
  refine V.aload_n C (n := 64) (j := 0) d_F_init_63 rfl rfl rfl ?_
  refine V.new C (n := 67) (fs := [.null, .null, .null, .null, .null, .null, .int (nI 0), .int (nI 0), .int (nI 0)]) clOk_5 nw_F_42 (fun j hj => by rcases (show j = 0 ∨ j = 1 ∨ j = 2 ∨ j = 3 ∨ j = 4 ∨ j = 5 ∨ j = 6 ∨ j = 7 ∨ j = 8 by omega) with rfl | rfl | rfl | rfl | rfl | rfl | rfl | rfl | rfl <;> rfl) (by decide) (by decide) d_F_init_64 rfl (fun q64 => ?_)
  refine V.wo C (ws' := [(o 0, .inr (0, [.ref (u9 0), .ref (u20 0), .ref (u31 0), .ref (u42 0), .ref (u57 0), .null, .int (nI 0)]))] ++ (TabW u9 cI zF zF zF zF zF zF 0) ++ (TabW u20 cI zF zF zF zF zF zF 0) ++ (SpnW u31 cI fi0 la0) ++ (TxtW u42 cC zF 0 false) ++ (ParW u57 (u42 0) 0 0 0) ++ [(q64, .inr (5, [.null, .null, .null, .null, .null, .null, .int (nI 0), .int (nI 0), .int (nI 0)]))]) rfl ?_
  refine V.dup C (n := 68) d_F_init_67 rfl rfl ?_
  refine V.callIN_v C (n := 71) (ws2 := fun u68 => [(o 0, .inr (0, [.ref (u9 0), .ref (u20 0), .ref (u31 0), .ref (u42 0), .ref (u57 0), .null, .int (nI 0)]))] ++ (TabW u9 cI zF zF zF zF zF zF 0) ++ (TabW u20 cI zF zF zF zF zF zF 0) ++ (SpnW u31 cI fi0 la0) ++ (TxtW u42 cC zF 0 false) ++ (ParW u57 (u42 0) 0 0 0) ++ (SeaW u68 cI zF zF zF zF zF zF 0 (-1) 0)) (c_Q_init l D cI cC E (q64) ) cw_F_44 [21] [0, 1, 2, 3, 4, 5, 6, 7, 8, 9, 10, 11, 12, 13, 14, 15, 16, 17, 18, 19, 20] [0, 1, 2, 3, 4, 5, 6, 7, 8, 9, 10, 11, 12, 13, 14, 15, 16, 17, 18, 19, 20, 21, 22, 23, 24, 25, 26, 27] rfl rfl (of_decide_eq_true rfl) rfl (of_decide_eq_true rfl) rfl (of_decide_eq_true rfl) (fun _ => rfl) (fun _ => of_decide_eq_true rfl) rfl ⟨rfl, rfl⟩ ⟨by decide, by decide⟩ ⟨by decide, by decide⟩ rfl rfl (of_decide_eq_true rfl) d_F_init_68 rfl (fun u68 hu68 => ?_)
  subst hu68
  refine V.putF C (n := 74) (q0 := 0) (k0 := 5) (ws' := [(o 0, .inr (0, [.ref (u9 0), .ref (u20 0), .ref (u31 0), .ref (u42 0), .ref (u57 0), .ref (u68 0), .int (nI 0)]))] ++ (TabW u9 cI zF zF zF zF zF zF 0) ++ (TabW u20 cI zF zF zF zF zF zF 0) ++ (SpnW u31 cI fi0 la0) ++ (TxtW u42 cC zF 0 false) ++ (ParW u57 (u42 0) 0 0 0) ++ (SeaW u68 cI zF zF zF zF zF zF 0 (-1) 0)) hin rfl clOk_0 rfl (by decide) rfl rfl fl_F_45 rfl rfl (of_decide_eq_true rfl) rfl d_F_init_71 rfl ?_
  refine V.aload_n C (n := 75) (j := 0) d_F_init_74 rfl rfl rfl ?_
  refine V.iconst C (v := nI 0) (n := 76) d_F_init_75 (by decide) rfl ?_
  refine V.cv C (y := bI (false = true)) (bI_0 (by decide)) ?_
  refine V.put C (n := 79) (q0 := 0) (k0 := 6) (ws' := [(o 0, .inr (0, [.ref (u9 0), .ref (u20 0), .ref (u31 0), .ref (u42 0), .ref (u57 0), .ref (u68 0), .int (bI (false = true))]))] ++ (TabW u9 cI zF zF zF zF zF zF 0) ++ (TabW u20 cI zF zF zF zF zF zF 0) ++ (SpnW u31 cI fi0 la0) ++ (TxtW u42 cC zF 0 false) ++ (ParW u57 (u42 0) 0 0 0) ++ (SeaW u68 cI zF zF zF zF zF zF 0 (-1) 0)) clOk_0 rfl (by decide) rfl rfl fl_F_49 (bI_nar _) (bI_fit _) (of_decide_eq_true rfl) rfl d_F_init_76 rfl ?_
  exact V.vret C hr d_F_init_79 (u9, u20, u31, u42, u57, u68) (trivial) (rfl)
end
