/-! rows of the law: the script, longs, its end -/
section VR3
variable {p : Program} {l : Launch} {e : Env} {R : Room} {s : State} {m : MethodId} {args : Array Value} {below : List Frame} {meth : Method} {c : Code}
variable {cc : ByteArray} {nL : Nat} {own : String} {D : va_G} {tys : TyS} {A : Nat → Prop} {cells slots : Nat} {Q : State → Prop}
variable {ws ws' : va_W} {lv lv' : List (Nat × Value)} {st rest : List Value} {pc n : Nat}
theorem V.sld (C : Cx p s m args meth c cc nL own D tys A) {b L i : Nat} {xs : Nat → Int32} (hX : va_X b L xs s s.heap) (hbl : b < s.heap.size) (hbA : ¬ A b) (hi : i < L) (hL : L < 2147483648) (hdg : decode cc pc = .ok (.iaload, 1)) (hn : pc + 1 = n) (k : V p l e R s m args below meth c nL D A cells slots Q ws lv n (.int (xs i) :: st)) : V p l e R s m args below meth c nL D A cells slots Q ws lv pc (.int (nI i) :: .ref b :: st) := by
  subst hn
  intro H locs ls hP hD hS hl
  refine va_sld C.1 C.2.1 hX hbl hbA hS (vp_in_nI hi (by simpa using hL)) hdg ?_
  rw [nI_clamp (show i < 2 ^ 31 by simp; omega)]
  exact k H locs ls hP hD hS hl
theorem V.slen (C : Cx p s m args meth c cc nL own D tys A) {b L : Nat} {xs : Nat → Int32} (hX : va_X b L xs s s.heap) (hbl : b < s.heap.size) (hbA : ¬ A b) (hdg : decode cc pc = .ok (.arraylength, 1)) (hn : pc + 1 = n) (k : V p l e R s m args below meth c nL D A cells slots Q ws lv n (.int (nI L) :: st)) : V p l e R s m args below meth c nL D A cells slots Q ws lv pc (.ref b :: st) := by
  subst hn
  intro H locs ls hP hD hS hl
  exact va_slen C.1 C.2.1 hX hbl hbA hS hdg (k H locs ls hP hD hS hl)
theorem V.land_r (C : Cx p s m args meth c cc nL own D tys A) {x y v : Int64} (hdg : decode cc pc = .ok (.land, 1)) (hv : x &&& y = v) (hn : pc + 1 = n) (k : V p l e R s m args below meth c nL D A cells slots Q ws lv n (.long v :: st)) : V p l e R s m args below meth c nL D A cells slots Q ws lv pc (.long y :: .long x :: st) := by
  subst hn
  subst hv
  intro H locs ls hP hD hS hl
  exact lv_land C.1 C.2.1 hdg (k H locs ls hP hD hS hl)
theorem V.lor_r (C : Cx p s m args meth c cc nL own D tys A) {x y v : Int64} (hdg : decode cc pc = .ok (.lor, 1)) (hv : x ||| y = v) (hn : pc + 1 = n) (k : V p l e R s m args below meth c nL D A cells slots Q ws lv n (.long v :: st)) : V p l e R s m args below meth c nL D A cells slots Q ws lv pc (.long y :: .long x :: st) := by
  subst hn
  subst hv
  intro H locs ls hP hD hS hl
  exact lv_lor C.1 C.2.1 hdg (k H locs ls hP hD hS hl)
theorem V.lshl_r (C : Cx p s m args meth c cc nL own D tys A) {x v : Int64} {y : Int32} (hdg : decode cc pc = .ok (.lshl, 1)) (hv : x <<< (y.toInt64 &&& 63) = v) (hn : pc + 1 = n) (k : V p l e R s m args below meth c nL D A cells slots Q ws lv n (.long v :: st)) : V p l e R s m args below meth c nL D A cells slots Q ws lv pc (.int y :: .long x :: st) := by
  subst hn
  intro H locs ls hP hD hS hl
  exact lv_lshl C.1 C.2.1 hdg hv (k H locs ls hP hD hS hl)
theorem V.i2l_r (C : Cx p s m args meth c cc nL own D tys A) {x : Int32} {v : Int64} (hdg : decode cc pc = .ok (.i2l, 1)) (hv : x.toInt64 = v) (hn : pc + 1 = n) (k : V p l e R s m args below meth c nL D A cells slots Q ws lv n (.long v :: st)) : V p l e R s m args below meth c nL D A cells slots Q ws lv pc (.int x :: st) := by
  subst hn
  intro H locs ls hP hD hS hl
  exact lv_i2l C.1 C.2.1 hdg hv (k H locs ls hP hD hS hl)
end VR3
/-! THE CLAIM OUT OF ONE WALK OF THE LAW'S BODY. Your part is whole_start (and what it stands on); all else here is the same for every law, but numbers. -/
def R_law : String := "FrameTablesLaw"
def lw_P (b : Addr) (xs : List Int32) (args : Array Value) (s : State) : Prop := args = #[.ref b] ∧ s.IntsAt b xs ∧ xs.length ≤ 2048 ∧ (Jvm.Cond.and given_1 narrow_1).before args s = true
def lw_Q (_ : Array Value) (s : State) (o : Outcome) (t : State) : Prop := o = .returned (some (.int 1)) ∧ Framed s o t [] 42 9458
def lw_Z (below : List Frame) (a : Array Value) (s : State) : State → Prop := fun t => ∃ o, t.status = .running ∧ Ended t below o ∧ lw_Q a s o t
/-- the law's own end, with 1 on the stack, nothing written that was there before, its room as the claim has it -/
theorem lw_ret {p : Program} {l : Launch} {e : Env} {s : State} {m : MethodId} {below : List Frame} {meth : Method} {c : Code} {b : Nat} (hx : p.tables.exec = Jvm.exec) (hb : c.code = code) (hr : meth.sig.returnType = ret) (hlocks : meth.locks = false) {pc : Nat} {H : Heap} {ls : Array Slot} (hdg : decode code pc = .ok (.ireturn, 1)) : W p l e room_1 s m #[Value.ref b] below meth c H [] 42 9458 (lw_Z below #[Value.ref b] s) (F0 m pc ls [.int 1]) := by
  intro T hT X
  obtain ⟨fs, hret, hrun, hended, hW, hframe⟩ := X.leave (v := some (.int 1)) (hlocks := hlocks) (fun h => by rw [hr] at h; cases h)
  have hmeth' : T.vm.method? m = some meth := X.method'
  refine ⟨T.setFrames fs, ?_, .returned (some (.int 1)), hrun, hended, rfl, ⟨_, rfl⟩, hW, hframe⟩
  jvm_step X.here [X.here.top, hx, hb, hdg, hmeth', hr, ret, narrow_b1]
  (try refine ⟨rfl, ?_⟩); (try refine ⟨rfl, ?_⟩)
  first | (intro acts; rw [hret _ acts rfl rfl rfl]) | rw [hret _ _ rfl rfl rfl]
  exact Steps.refl _
/-- what holds at the law's entry: the machine, the code, the tables' words (any of lw_tbl by 'hts w (by decide +kernel)'), the script of L ints xs at the cell b, what the Statement gives of the start (any of its parts by flat_of_before) -/
def lw_At (p : Program) (s : State) (m : MethodId) (meth : Method) (c : Code) (b L : Nat) (xs : Nat → Int32) : Prop :=
  p.tables.exec = Jvm.exec ∧ c.code = code ∧ meth.sig.returnType = ret ∧ c.maxLocals = 4 ∧ s.vm.findClass R_law = some m.cls ∧ (∀ w ∈ lw_tbl, w.before #[Value.ref b] s = true) ∧ va_X b L xs s s.heap ∧ b < s.heap.size ∧ meth.locks = false ∧ (Jvm.Cond.and given_1 narrow_1).before #[Value.ref b] s = true
