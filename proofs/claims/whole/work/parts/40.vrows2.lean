theorem jI_sub (a b : Int) : jI a - jI b = jI (a - b) := (Int64.ofInt_sub a b).symm
theorem i2l_eq {z : Int} (h1 : -2147483648 ≤ z) (h2 : z < 2147483648) : (iI z).toInt64 = jI z := by
  apply Int64.toInt_inj.mp
  rw [Int32.toInt_toInt64, iI_toInt h1 h2, jI_toInt (by omega) (by omega)]
/-- a contract that answers an int and leaves one of some states -/
def CE (l : Launch) (D : va_G) (tys : TyS) (M : MI) (rm : Room) (As : List Value) (W0 : va_W) (R : Int32) {S : Type} (post : S → Prop) (W1 : S → va_W) : Prop :=
  ∀ sz : Nat, Met l M.1 (.code M.1 M.2.1 M.2.2.1 M.2.2.2 :: wT) rm (va_Pc As (fun U => U.heap.size = sz ∧ va_P D vwCl W0 U.heap ∧ va_K D vwCl tys.1 U ∧ va_D (fun _ => True) W0 ∧ SF tys.2 (va_A W0 sz) U)) (va_Qi (fun (r : Int32) (u : S) => r = R ∧ post u) (fun u t => va_P D vwCl (W1 u) t.heap ∧ va_K D vwCl tys.1 t ∧ va_D (va_A W0 sz) (W1 u)) (va_A W0 sz)) 0 0 (va_A W0 sz)
section VR2
variable {p : Program} {l : Launch} {e : Env} {R : Room} {s : State} {m : MethodId} {args : Array Value} {below : List Frame} {meth : Method} {c : Code}
variable {cc : ByteArray} {nL : Nat} {own : String} {D : va_G} {tys : TyS} {A : Nat → Prop} {cells slots : Nat} {Q : State → Prop}
variable {ws ws' : va_W} {lv lv' : List (Nat × Value)} {st rest : List Value} {pc n : Nat}
theorem V.i2l_z (C : Cx p s m args meth c cc nL own D tys A) {X : Int} {x : Int32} (hdg : decode cc pc = .ok (.i2l, 1)) (ex : x = iI X) (h1 : -2147483648 ≤ X ∧ X < 2147483648) (hn : pc + 1 = n) (k : V p l e R s m args below meth c nL D A cells slots Q ws lv n (.long (jI X) :: st)) : V p l e R s m args below meth c nL D A cells slots Q ws lv pc (.int x :: st) := by
  subst hn
  subst ex
  intro H locs ls hP hD hS hl
  exact lv_i2l C.1 C.2.1 hdg (i2l_eq h1.1 h1.2) (k H locs ls hP hD hS hl)
theorem V.lsub_r (C : Cx p s m args meth c cc nL own D tys A) {x y v : Int64} (hdg : decode cc pc = .ok (.lsub, 1)) (hv : x - y = v) (hn : pc + 1 = n) (k : V p l e R s m args below meth c nL D A cells slots Q ws lv n (.long v :: st)) : V p l e R s m args below meth c nL D A cells slots Q ws lv pc (.long y :: .long x :: st) := by
  subst hn
  subst hv
  intro H locs ls hP hD hS hl
  exact lv_lsub C.1 C.2.1 hdg (k H locs ls hP hD hS hl)
theorem V.ifl_ne (C : Cx p s m args meth c cc nL own D tys A) {X Y : Int} {x y : Int64} {off : Int} {tgt : Nat} (ex : x.toInt = X) (ey : y.toInt = Y) (hdg : decode cc pc = .ok (.ifCond .ne off, 3)) (ht : (pc : Int) + off = (tgt : Int)) (hn : pc + 3 = n) (kt : X ≠ Y → V p l e R s m args below meth c nL D A cells slots Q ws lv tgt st) (kf : X = Y → V p l e R s m args below meth c nL D A cells slots Q ws lv n st) : V p l e R s m args below meth c nL D A cells slots Q ws lv pc (.int (lg_cmp x y) :: st) := by
  subst hn
  intro H locs ls hP hD hS hl
  have h9 : lg_cmp x y = 0 ↔ X = Y := by rw [← ex, ← ey]; exact (lg_cmp_eq x y).trans Int64.toInt_inj.symm
  exact lv_if_ne C.1 C.2.1 hdg ht (fun c9 => kt (fun q => c9 (h9.mpr q)) H locs ls hP hD hS hl) (fun c9 => kf (h9.mp (Classical.byContradiction fun q => q c9)) H locs ls hP hD hS hl)
theorem V.behind_e (C : Cx p s m args meth c cc nL own D tys A) {isC isR pm : List Nat} {W0 : va_W} {S : Type} {post : S → Prop} {W1 ws2 : S → va_W} {R' : Int32} {a : Array Value}
    (hC : pickW ws isC = W0) (hbC : ∀ i ∈ isC, i < ws.length) (hbR : ∀ i ∈ isR, i < ws.length) (hnR : va_nd isR = true) (hdis : ∀ i ∈ isR, i ∉ isC) (hw : ∀ u, pickW (pickW ws isR ++ W1 u) pm = ws2 u) (hbP : ∀ u, ∀ i ∈ pm, i < (pickW ws isR ++ W1 u).length) (hnP : va_nd pm = true)
    (hrun : ∀ (H : Heap) (locs : List Loc) (ls : Array Slot), va_P D vwCl ws H → va_D A ws → va_S A s.heap H locs → lv_has ls nL lv → va_Run p l e R s m args below meth c H locs cells slots 0 0 (F0 m pc ls st) rest (va_Qi (fun (r : Int32) (u : S) => r = R' ∧ post u) (fun u t => va_P D vwCl (W1 u) t.heap ∧ va_K D vwCl tys.1 t ∧ va_D (va_A W0 H.size) (W1 u)) (va_A W0 H.size) a) (va_A W0 H.size))
    (hn : pc + 3 = n) (k : ∀ u : S, post u → V p l e R s m args below meth c nL D A cells slots Q (ws2 u) lv n (.int R' :: rest)) : V p l e R s m args below meth c nL D A cells slots Q ws lv pc st := by
  subst hn
  intro H locs ls hP hD hS hl
  have hm : isC.map (fun i => ws[i]?) = W0.map some := by rw [← hC]; exact pickW_map hbC
  have hF := va_free hD hS C.2.2.2.2.2.2.1 isC hm
  refine va_calli (hrun H locs ls hP hD hS hl) hS (fun q _ h => hF q h) hF (fun r u t H1 locs1 ht hvm hpost hB hz hk hS1 => ?_)
  obtain ⟨hr9, hpost⟩ := hpost
  subst hr9
  obtain ⟨hP1, hK1, hD1⟩ := hB
  rw [ht] at hP1
  obtain ⟨hP2, hD2⟩ := va_join (wr := pickW ws isR) hP hD isC isR hm (pickW_map hbR) hnR hdis hk hF hP1 hD1
  have k2 := k u hpost
  rw [← hw u] at k2
  exact k2 H1 locs1 ls (hP2.sub pm rfl) (hD2.sub pm hnP (pickW_map (hbP u))) hS1 hl
theorem V.callV_e (C : Cx p s m args meth c cc nL own D tys A) {M : MI} {rm : Room} {As : List Value} {b : Nat} {W0 : va_W} {nA idx : Nat} {S : Type} {post : S → Prop} {W1 ws2 : S → va_W} {R' : Int32} {qr ci N : Nat} {T : u_T} {fs : List Value} (hM : CE l D tys M rm (.ref b :: As) W0 R' post W1) (cw : cwv own idx M nA) (isC isR pm : List Nat) (hrc : W0[qr]? = some (b, .inr (ci, fs))) (hcl : vwCl[ci]? = some (M.1.cls, T, N)) (hC : pickW ws isC = W0) (hbC : ∀ i ∈ isC, i < ws.length) (hnC : va_nd isC = true) (hbR : ∀ i ∈ isR, i < ws.length) (hnR : va_nd isR = true) (hdis : ∀ i ∈ isR, i ∉ isC) (hw : ∀ u, pickW (pickW ws isR ++ W1 u) pm = ws2 u) (hbP : ∀ u, ∀ i ∈ pm, i < (pickW ws isR ++ W1 u).length) (hnP : va_nd pm = true) (hrm : rm.cells = 0 ∧ rm.slots = 0) (hR : rm.frames + 1 ≤ R.frames ∧ 8 + (M.2.2.1 + 11) + rm.locals ≤ R.locals) (hcs : cells + 0 ≤ R.cells ∧ slots + 0 ≤ R.slots) (hnA : As.length = nA) (hst : st = As.reverse ++ .ref b :: rest) (hro : (rest.map fun v => v.category).sum ≤ 8) (hdg : decode cc pc = .ok (.invokevirtual idx, 3)) (hn : pc + 3 = n) (k : ∀ u : S, post u → V p l e R s m args below meth c nL D A cells slots Q (ws2 u) lv n (.int R' :: rest)) : V p l e R s m args below meth c nL D A cells slots Q ws lv pc st := by
  subst hst
  refine V.behind_e C (a := (.ref b :: As).toArray) (isC := isC) (isR := isR) (pm := pm) hC hbC hbR hnR hdis hw hbP hnP (fun H locs ls hP hD hS hl => ?_) hn k
  obtain ⟨w1, w2, w3, w4, w5, w6⟩ := cw
  have hc2 : CallB R s args own idx M.1 M.2.1 M.2.2.1 M.2.2.2 (.code M.1 M.2.1 M.2.2.1 M.2.2.2 :: wT) rm 0 0 nA := callB_of nA C.2.2.2.2.1 (good_cons w5) rfl hrm.1 hrm.2 (C.2.2.2.2.1 _ w4) (C.2.2.2.2.1 _ w1) w6 hR
  exact va_runV ⟨C.1, C.2.1, C.2.2.1, C.2.2.2.1, C.2.2.2.2.1⟩ (hM H.size) ⟨hc2, C.2.2.2.2.1 _ w2, C.2.2.2.2.1 _ w3⟩ ⟨pre_blind, va_recv C.2.2.2.2.2.1 (hP.sub isC hC) hcl hrc, pre_at C (As := (.ref b :: As)) hP hD hS hC hbC hnC⟩ rfl hnA hl.1 rfl (lv_room hro) hdg hcs
theorem V.iretE {W0 : va_W} {S : Type} {post : S → Prop} {W1 : S → va_W} {R' v : Int32} (C : Cx p s m args meth c cc nL own D tys (va_A W0 s.heap.size)) (hr : meth.sig.returnType = some .int) (hdg : decode cc pc = .ok (.ireturn, 1)) (u : S) (hu : post u) (hv : v = R') (hw : ws = W1 u) : V p l e R s m args below meth c nL D (va_A W0 s.heap.size) cells slots (MQ below (va_Qi (fun (r : Int32) (u : S) => r = R' ∧ post u) (fun u t => va_P D vwCl (W1 u) t.heap ∧ va_K D vwCl tys.1 t ∧ va_D (va_A W0 s.heap.size) (W1 u)) (va_A W0 s.heap.size)) args s cells slots (va_A W0 s.heap.size)) ws lv pc [.int v] := by
  subst hv
  subst hw
  intro H locs ls hP hD hS hl
  exact W.iret C.1 C.2.1 hr (fun t ht hW => ⟨⟨_, u, rfl, ⟨rfl, hu⟩, by rw [ht]; exact hP, va_K.moved hW.alike C.2.2.2.2.2.1, hD⟩, hS.F ht⟩) hS.2.2 hdg C.2.2.2.2.2.2.2.1
theorem V.zretE {W0 : va_W} {S : Type} {post : S → Prop} {W1 : S → va_W} {R' v : Int32} (C : Cx p s m args meth c cc nL own D tys (va_A W0 s.heap.size)) {ty : FieldType} (hr : meth.sig.returnType = some ty) (hnar : narrow ty (.int R') = .int R') (hdg : decode cc pc = .ok (.ireturn, 1)) (u : S) (hu : post u) (hv : v = R') (hw : ws = W1 u) : V p l e R s m args below meth c nL D (va_A W0 s.heap.size) cells slots (MQ below (va_Qi (fun (r : Int32) (u : S) => r = R' ∧ post u) (fun u t => va_P D vwCl (W1 u) t.heap ∧ va_K D vwCl tys.1 t ∧ va_D (va_A W0 s.heap.size) (W1 u)) (va_A W0 s.heap.size)) args s cells slots (va_A W0 s.heap.size)) ws lv pc [.int v] := by
  subst hv
  subst hw
  intro H locs ls hP hD hS hl
  exact W.zret C.1 C.2.1 hr hnar (fun t ht hW => ⟨⟨_, u, rfl, ⟨rfl, hu⟩, by rw [ht]; exact hP, va_K.moved hW.alike C.2.2.2.2.2.1, hD⟩, hS.F ht⟩) hS.2.2 hdg C.2.2.2.2.2.2.2.1
end VR2
theorem CE.of {l : Launch} {D : va_G} {tys : TyS} {y : MethodName} {cc : ByteArray} {nL : Nat} {ret : Option FieldType} {rm : Room} {As : List Value} {W0 : va_W} {S : Type} {post : S → Prop} {R' : Int32} {W1 : S → va_W} (hy : plainName y.cls = true) (hn : (lg_sl As).length ≤ nL)
    (body : ∀ (p : Program) (e : Env) (s : State) (m : MethodId) (args : Array Value) (below : List Frame) (meth : Method) (c : Code), Cx p s m args meth c cc nL y.cls D tys (va_A W0 s.heap.size) → meth.sig.returnType = ret → V p l e rm s m args below meth c nL D (va_A W0 s.heap.size) 0 0 (MQ below (va_Qi (fun (r : Int32) (u : S) => r = R' ∧ post u) (fun u t => va_P D vwCl (W1 u) t.heap ∧ va_K D vwCl tys.1 t ∧ va_D (va_A W0 s.heap.size) (W1 u)) (va_A W0 s.heap.size)) args s 0 0 (va_A W0 s.heap.size)) W0 (lv_args 0 As) 0 []) :
    CE l D tys (y, cc, nL, ret) rm As W0 R' post W1 := by
  intro sz
  refine Met.ofW (cc := cc) (maxL := nL) (ret := ret) hy rfl ?_
  intro p e s m args below meth c s₁ B hml hv
  obtain ⟨rfl, hsz, hP, hK, hD0, hF⟩ := hv
  subst hsz
  have hts := atoms_spec (ws := (.code y cc nL ret :: wT)) B.pre
  have hl := lv_entry As (n := nL) hn
  rw [lg_entry_eq]
  exact body p e s m As.toArray below meth c ⟨B.exec, B.bytes, hml, findClass_of_methodNamed B.named, fun w h => hts w (List.mem_cons_of_mem _ h), hK, fun q h => Or.inr h, B.notSynchronized, hF⟩ B.returns s.heap [] _ hP hD0.self va_S.rf hl
