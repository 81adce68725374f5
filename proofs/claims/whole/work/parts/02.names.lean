/-! names: the classes that the worlds hold, the words of the tables, what is said of literals and nest mates -/
def fT0 : u_T := fun k => match k with
  | 0 => ("FrameTables", "table", "LFrameTables$Table;", false)
  | 1 => ("FrameTables", "draft", "LFrameTables$Table;", false)
  | 2 => ("FrameTables", "spans", "LFrameTables$Spans;", true)
  | 3 => ("FrameTables", "text", "LFrameTables$Text;", true)
  | 4 => ("FrameTables", "parser", "LFrameTables$Parser;", true)
  | 5 => ("FrameTables", "search", "LFrameTables$Search;", true)
  | _ => ("FrameTables", "spreadWasExact", "Z", false)
def t0_ : Nat → FieldType := fun k => match k with
  | 0 => .object "FrameTables$Table"
  | 1 => .object "FrameTables$Table"
  | 2 => .object "FrameTables$Spans"
  | 3 => .object "FrameTables$Text"
  | 4 => .object "FrameTables$Parser"
  | 5 => .object "FrameTables$Search"
  | _ => .boolean
def fT1 : u_T := fun k => match k with
  | 0 => ("FrameTables$Table", "senders", "[I", true)
  | 1 => ("FrameTables$Table", "periods", "[I", true)
  | 2 => ("FrameTables$Table", "ranks", "[I", true)
  | 3 => ("FrameTables$Table", "gaps", "[I", true)
  | 4 => ("FrameTables$Table", "offsets", "[I", true)
  | 5 => ("FrameTables$Table", "timeouts", "[I", true)
  | _ => ("FrameTables$Table", "size", "I", false)
def t1_ : Nat → FieldType := fun k => match k with
  | 0 => .array .int
  | 1 => .array .int
  | 2 => .array .int
  | 3 => .array .int
  | 4 => .array .int
  | 5 => .array .int
  | _ => .int
def fT2 : u_T := fun k => match k with
  | 0 => ("FrameTables$Spans", "firsts", "[I", true)
  | _ => ("FrameTables$Spans", "lasts", "[I", true)
def t2_ : Nat → FieldType := fun k => match k with
  | 0 => .array .int
  | _ => .array .int
def fT3 : u_T := fun k => match k with
  | 0 => ("FrameTables$Text", "signs", "[C", true)
  | 1 => ("FrameTables$Text", "length", "I", false)
  | _ => ("FrameTables$Text", "lostSigns", "Z", false)
def t3_ : Nat → FieldType := fun k => match k with
  | 0 => .array .char
  | 1 => .int
  | _ => .boolean
def fT4 : u_T := fun k => match k with
  | 0 => ("FrameTables$Parser", "text", "LFrameTables$Text;", true)
  | 1 => ("FrameTables$Parser", "wordStart", "I", false)
  | 2 => ("FrameTables$Parser", "wordEnd", "I", false)
  | _ => ("FrameTables$Parser", "lineEnd", "I", false)
def t4_ : Nat → FieldType := fun k => match k with
  | 0 => .object "FrameTables$Text"
  | 1 => .int
  | 2 => .int
  | _ => .int
def fT5 : u_T := fun k => match k with
  | 0 => ("FrameTables$Search", "frames", "[I", true)
  | 1 => ("FrameTables$Search", "strides", "[I", true)
  | 2 => ("FrameTables$Search", "nextOffsets", "[I", true)
  | 3 => ("FrameTables$Search", "peaksBefore", "[I", true)
  | 4 => ("FrameTables$Search", "bestRow", "[I", true)
  | 5 => ("FrameTables$Search", "begins", "[I", true)
  | 6 => ("FrameTables$Search", "places", "I", false)
  | 7 => ("FrameTables$Search", "place", "I", false)
  | _ => ("FrameTables$Search", "bestPeak", "I", false)
def t5_ : Nat → FieldType := fun k => match k with
  | 0 => .array .int
  | 1 => .array .int
  | 2 => .array .int
  | 3 => .array .int
  | 4 => .array .int
  | 5 => .array .int
  | 6 => .int
  | 7 => .int
  | _ => .int
def fT6 : u_T := fun k => match k with
  | 0 => ("FrameTablesModel", "code", "I", false)
  | 1 => ("FrameTablesModel", "frames", "I", false)
  | 2 => ("FrameTablesModel", "sender", "[I", true)
  | 3 => ("FrameTablesModel", "period", "[I", true)
  | 4 => ("FrameTablesModel", "rank", "[I", true)
  | 5 => ("FrameTablesModel", "gap", "[I", true)
  | 6 => ("FrameTablesModel", "offset", "[I", true)
  | 7 => ("FrameTablesModel", "timeout", "[I", true)
  | 8 => ("FrameTablesModel", "from", "[I", true)
  | 9 => ("FrameTablesModel", "to", "[I", true)
  | 10 => ("FrameTablesModel", "isExact", "Z", false)
  | 11 => ("FrameTablesModel", "size", "I", false)
  | 12 => ("FrameTablesModel", "text", "[I", true)
  | 13 => ("FrameTablesModel", "load", "[I", true)
  | 14 => ("FrameTablesModel", "row", "[I", true)
  | 15 => ("FrameTablesModel", "which", "[I", true)
  | 16 => ("FrameTablesModel", "best", "[I", true)
  | 17 => ("FrameTablesModel", "place", "I", false)
  | _ => ("FrameTablesModel", "number", "I", false)
def t6_ : Nat → FieldType := fun k => match k with
  | 0 => .int
  | 1 => .int
  | 2 => .array .int
  | 3 => .array .int
  | 4 => .array .int
  | 5 => .array .int
  | 6 => .array .int
  | 7 => .array .int
  | 8 => .array .int
  | 9 => .array .int
  | 10 => .boolean
  | 11 => .int
  | 12 => .array .int
  | 13 => .array .int
  | 14 => .array .int
  | 15 => .array .int
  | 16 => .array .int
  | 17 => .int
  | _ => .int
abbrev vwCl : List vw_C := [("FrameTables", fT0, 7), ("FrameTables$Table", fT1, 7), ("FrameTables$Spans", fT2, 2), ("FrameTables$Text", fT3, 3), ("FrameTables$Parser", fT4, 4), ("FrameTables$Search", fT5, 9), ("FrameTablesModel", fT6, 19)]
def wT : List Cond := lw_tbl.filter goodWord
theorem wT_good : GoodIn wT wT := fun w h => ⟨h, good_of_word (List.mem_filter.mp h).2⟩
theorem wT_m {w : Cond} (i : Nat) (h : lw_tbl[i]? = some w) (hg : goodWord w = true) : w ∈ wT := List.mem_filter.mpr ⟨List.mem_of_getElem? h, hg⟩
abbrev TyS : Type := List (ClassId × FieldType) × (Nat → Nat)
def wN : List (String × Nat × MethodName × String) := [("FrameTables", 9, ⟨"FrameTables$Table", "<init>", "()V"⟩, "FrameTables"), ("FrameTables", 28, ⟨"FrameTables$Text", "<init>", "()V"⟩, "FrameTables"), ("FrameTables", 44, ⟨"FrameTables$Search", "<init>", "()V"⟩, "FrameTables"), ("FrameTables$Parser", 64, ⟨"FrameTables", "isNode", "(I)Z"⟩, "FrameTables"), ("FrameTables$Parser", 68, ⟨"FrameTables", "isPeriod", "(I)Z"⟩, "FrameTables"), ("FrameTables$Parser", 71, ⟨"FrameTables", "isRank", "(I)Z"⟩, "FrameTables")]
def sRf : List (String × Nat × String × Nat) := [("FrameTables$Parser", 48, "frame", 0), ("FrameTables$Parser", 81, "reads", 1), ("FrameTables", 177, "frame", 0), ("FrameTables", 195, "reads", 1)]
abbrev nSt : Nat := 2
def sLen : List Nat := [5, 5]
def sNat : List (List Nat) := [[102, 114, 97, 109, 101], [114, 101, 97, 100, 115]]
def sByt : List (List Int32) := [[102, 114, 97, 109, 101], [114, 101, 97, 100, 115]]
def sln (i : Nat) : Nat := sLen.getD i 0
/-! the two literals -/
def sch (i j : Nat) : Nat := (sNat.getD i []).getD j 0
theorem sln_le (i : Nat) : sln i ≤ 5 := by
  match i with
  | 0 => decide
  | 1 => decide
  | _ + 2 => exact Nat.zero_le _
theorem sch_le (i j : Nat) : sch i j ≤ 255 := by
  match i with
  | 0 =>
    match j with
    | 0 => decide
    | 1 => decide
    | 2 => decide
    | 3 => decide
    | 4 => decide
    | _ + 5 => exact Nat.zero_le _
  | 1 =>
    match j with
    | 0 => decide
    | 1 => decide
    | 2 => decide
    | 3 => decide
    | 4 => decide
    | _ + 5 => exact Nat.zero_le _
  | _ + 2 => exact Nat.zero_le _
/-- what else holds at every call: nest mates' links, the literals (outside A), COMPACT_STRINGS -/
def SF (E : Nat → Nat) (A : Nat → Prop) (U : State) : Prop :=
  (∀ q ∈ wN, va_Nw (.methodLinkNest q.1 q.2.1 q.2.2.1 q.2.2.2) U) ∧ (∀ q ∈ sRf, vk_R q.1 q.2.1 q.2.2.1 (E q.2.2.2) U) ∧ vk_S nSt sLen sByt E (fun i => E (i + nSt)) A U U.heap ∧ va_Z "java/lang/String" "COMPACT_STRINGS" "Z" (.int 1) A U U.heap ∧ ∃ v : Value, (v = .null ∨ ∃ a : Nat, v = .ref a) ∧ va_Z "jdk/internal/util/Preconditions" "SIOOBE_FORMATTER" "Ljava/util/function/BiFunction;" v A U U.heap
theorem SF_calling {E : Nat → Nat} {A : Nat → Prop} {U : State} {g : JFrame} {mk : MethodId} {a : Array Value} (h : SF E A U) : SF E A (U.calling g mk a) :=
  ⟨fun q hq => va_Nw.same rfl (u := U) rfl (h.1 q hq), fun q hq => vk_R.same (u := U) rfl (h.2.1 q hq), vk_S.moved (u := U) (Vm.Alike.refl U.vm) h.2.2.1, va_Z.moved (u := U) (Vm.Alike.refl U.vm) h.2.2.2.1, by obtain ⟨v, h1, h2⟩ := h.2.2.2.2; exact ⟨v, h1, va_Z.moved (u := U) (Vm.Alike.refl U.vm) h2⟩⟩
theorem SF_call {E : Nat → Nat} {A B : Nat → Prop} {s U : State} {H : Heap} {locs : List Loc} (h : SF E A s) (hS : va_S A s.heap H locs) (hF : ∀ q, B q → A q) (hU : U.heap = H) (hW : s.WarmedH U.vm) : SF E B U := by
  refine ⟨fun q hq => va_Nw.warmM hW (h.1 q hq), fun q hq => vk_R.warm hW (h.2.1 q hq), ?_, ?_, ?_⟩
  · rw [hU]; exact vk_S.moved hW.alike ((h.2.2.1.kept hS.2.1).narrow hF)
  · rw [hU]; exact va_Z.moved hW.alike ((h.2.2.2.1.kept hS.2.1).narrow hF)
  · obtain ⟨v, h1, h2⟩ := h.2.2.2.2
    rw [hU]; exact ⟨v, h1, va_Z.moved hW.alike ((h2.kept hS.2.1).narrow hF)⟩
