/-! V: the machine walk over pure data. Own rows; each stands on a row of the kit. -/
def iI (z : Int) : Int32 := Int32.ofInt z
theorem iI_nat (a : Nat) : iI (a : Int) = nI a := Int32.ofInt_eq_ofNat
theorem nI_iI (a : Nat) : nI a = iI (a : Int) := (iI_nat a).symm
theorem iI_toInt {z : Int} (h1 : -2147483648 ≤ z) (h2 : z < 2147483648) : (iI z).toInt = z := Int32.toInt_ofInt_of_le (by simpa using h1) (by simpa using h2)
theorem iI_add (a b : Int) : iI a + iI b = iI (a + b) := (Int32.ofInt_add a b).symm
theorem iI_sub (a b : Int) : iI a - iI b = iI (a - b) := (Int32.ofInt_sub a b).symm
theorem iI_mul (a b : Int) : iI a * iI b = iI (a * b) := (Int32.ofInt_mul a b).symm
theorem iI_neg (a : Int) : -iI a = iI (-a) := (Int32.ofInt_neg a).symm
theorem iI_raw (x : Int32) : iI x.toInt = x := Int32.ofInt_toInt x
theorem nT {a : Nat} (h : a < 2147483648) : (nI a).toInt = (a : Int) := nI_toInt (by simpa using h)
def jI (z : Int) : Int64 := Int64.ofInt z
theorem jI_toInt {z : Int} (h1 : -9223372036854775808 ≤ z) (h2 : z < 9223372036854775808) : (jI z).toInt = z := Int64.toInt_ofInt_of_le (by simpa using h1) (by simpa using h2)
theorem jI_add (a b : Int) : jI a + jI b = jI (a + b) := (Int64.ofInt_add a b).symm
theorem jI_raw (x : Int64) : jI x.toInt = x := Int64.ofInt_toInt x
noncomputable def bI (P : Prop) : Int32 := @ite Int32 P (Classical.propDecidable P) 1 0
theorem bI_t {P : Prop} (h : P) : bI P = 1 := by unfold bI; exact if_pos h
theorem bI_f {P : Prop} (h : ¬ P) : bI P = 0 := by unfold bI; exact if_neg h
theorem bI_1 {P : Prop} (h : P) : nI 1 = bI P := (bI_t h).symm
theorem bI_0 {P : Prop} (h : ¬ P) : nI 0 = bI P := (bI_f h).symm
theorem bI_z {P : Prop} : bI P = 0 ↔ ¬ P := ⟨fun h q => by rw [bI_t q] at h; exact absurd h (by decide), bI_f⟩
theorem bI_c {P Q : Prop} (h : P ↔ Q) : bI P = bI Q := by rw [propext h]
theorem bI_nar (P : Prop) : narrow .boolean (.int (bI P)) = .int (bI P) := by
  by_cases h : P
  · rw [bI_t h]; decide
  · rw [bI_f h]; decide
theorem nI_inc (a b : Nat) : nI a + Int32.ofInt (b : Int) = nI (a + b) := by rw [show Int32.ofInt (b : Int) = nI b from Int32.ofInt_eq_ofNat, nI_add]
theorem iI_inc {x : Int32} {z b : Int} (h : x = iI z) : x + Int32.ofInt b = iI (z + b) := by rw [h]; exact iI_add z b
theorem iI_nn {z : Int} (h : 0 ≤ z) : iI z = nI z.toNat := by rw [← iI_nat, Int.toNat_of_nonneg h]
theorem oct_eq (x s : Int32) (k : Nat) (hs : ((s.toUInt32 &&& Int32.toUInt32 31).toBitVec % 32).toNat = k) : (x.toUInt32 >>> (s.toUInt32 &&& Int32.toUInt32 31)).toInt32 &&& nI 255 = nI (x.toBitVec.toNat / 2 ^ k % 256) := by rw [pk_and _ 8 (by decide), pk_ushr x s k hs]
theorem iI_ton {z : Int} {k : Nat} (h : z = (k : Int)) : iI z = nI k := by rw [h, iI_nat]
theorem bI_fit (P : Prop) : fits .boolean (.int (bI P)) = true := by
  by_cases h : P
  · rw [bI_t h]; decide
  · rw [bI_f h]; decide
def rmD (d : Nat) : Room := { frames := d, cells := 0, slots := 0, locals := 40 * d }
def rmA (d mc ms : Nat) : Room := { frames := d, cells := mc, slots := ms, locals := 40 * d }
def zF : Nat → Nat := fun _ => 0
def adr (l : List Nat) : Nat → Nat := fun k => l.getD k 0
def TY (cI cC : ClassId) (E : Nat → Nat) : TyS := ([(cI, .int), (cC, .char)], E)
def updN (f : Nat → Nat) (k x : Nat) : Nat → Nat := fun j => if j = k then x else f j
theorem updN_s (f : Nat → Nat) (k x : Nat) : updN f k x k = x := if_pos rfl
theorem updN_n {f : Nat → Nat} {k x j : Nat} (h : j ≠ k) : updN f k x j = f j := if_neg h
def updZ (f : Nat → Int) (k : Nat) (x : Int) : Nat → Int := fun j => if j = k then x else f j
theorem updZ_s (f : Nat → Int) (k : Nat) (x : Int) : updZ f k x k = x := if_pos rfl
theorem updZ_n {f : Nat → Int} {k j : Nat} {x : Int} (h : j ≠ k) : updZ f k x j = f j := if_neg h
theorem upd_nI (f : Nat → Nat) (k x : Nat) : upd (fun j => nI (f j)) k (nI x) = fun j => nI (updN f k x j) := by
  funext j
  unfold upd updN
  by_cases h : j = k
  · rw [if_pos h, if_pos h]
  · rw [if_neg h, if_neg h]
theorem upd_iI (f : Nat → Int) (k : Nat) (x : Int) : upd (fun j => iI (f j)) k (iI x) = fun j => iI (updZ f k x j) := by
  funext j
  unfold upd updZ
  by_cases h : j = k
  · rw [if_pos h, if_pos h]
  · rw [if_neg h, if_neg h]
def pickW (ws : va_W) (is : List Nat) : va_W := is.filterMap (fun i => ws[i]?)
theorem pickW_map {ws : va_W} {is : List Nat} (h : ∀ i ∈ is, i < ws.length) : is.map (fun i => ws[i]?) = (pickW ws is).map some := by
  unfold pickW
  induction is with
  | nil => rfl
  | cons i is ih =>
    have h1 : ws[i]? = some (ws[i]'(h i List.mem_cons_self)) := List.getElem?_eq_getElem _
    rw [List.map_cons, List.filterMap_cons, h1]
    simp only [List.map_cons]
    rw [← ih (fun j hj => h j (List.mem_cons_of_mem _ hj))]
abbrev MI : Type := MethodName × ByteArray × Nat × Option FieldType
def Cx (p : Program) (s : State) (m : MethodId) (args : Array Value) (meth : Method) (c : Code) (cc : ByteArray) (nL : Nat) (own : String) (D : va_G) (tys : TyS) (A : Nat → Prop) : Prop :=
  p.tables.exec = Jvm.exec ∧ c.code = cc ∧ c.maxLocals = nL ∧ s.vm.findClass own = some m.cls ∧ (∀ w ∈ wT, w.before args s = true) ∧ va_K D vwCl tys.1 s ∧ (∀ q : Nat, s.heap.size ≤ q → A q) ∧ meth.locks = false ∧ SF tys.2 A s
def V (p : Program) (l : Launch) (e : Env) (R : Room) (s : State) (m : MethodId) (args : Array Value) (below : List Frame) (meth : Method) (c : Code) (nL : Nat) (D : va_G) (A : Nat → Prop) (cells slots : Nat) (Q : State → Prop) (ws : va_W) (lv : List (Nat × Value)) (pc : Nat) (st : List Value) : Prop :=
  ∀ (H : Heap) (locs : List Loc) (ls : Array Slot), va_P D vwCl ws H → va_D A ws → va_S A s.heap H locs → lv_has ls nL lv → W p l e R s m args below meth c H locs cells slots Q (F0 m pc ls st)
def CI (l : Launch) (D : va_G) (tys : TyS) (M : MI) (rm : Room) (As : List Value) (W0 : va_W) (R : Int32) (W1 : va_W) : Prop :=
  ∀ sz : Nat, Met l M.1 (.code M.1 M.2.1 M.2.2.1 M.2.2.2 :: wT) rm (va_Pc As (fun U => U.heap.size = sz ∧ va_P D vwCl W0 U.heap ∧ va_K D vwCl tys.1 U ∧ va_D (fun _ => True) W0 ∧ SF tys.2 (va_A W0 sz) U)) (va_Qi (fun (r : Int32) (_ : Unit) => r = R) (fun _ t => va_P D vwCl W1 t.heap ∧ va_K D vwCl tys.1 t ∧ va_D (va_A W0 sz) W1) (va_A W0 sz)) 0 0 (va_A W0 sz)
def CN (l : Launch) (D : va_G) (tys : TyS) (M : MI) (rm : Room) (As : List Value) (W0 : va_W) {S : Type} (post : S → Prop) (W1 : S → va_W) (mc ms : Nat) : Prop :=
  ∀ sz : Nat, Met l M.1 (.code M.1 M.2.1 M.2.2.1 M.2.2.2 :: wT) rm (va_Pc As (fun U => U.heap.size = sz ∧ va_P D vwCl W0 U.heap ∧ va_K D vwCl tys.1 U ∧ va_D (fun _ => True) W0 ∧ SF tys.2 (va_A W0 sz) U)) (va_Qv post (fun u t => va_P D vwCl (W1 u) t.heap ∧ va_K D vwCl tys.1 t ∧ va_D (va_A W0 sz) (W1 u)) (va_A W0 sz)) mc ms (va_A W0 sz)
def CV (l : Launch) (D : va_G) (tys : TyS) (M : MI) (rm : Room) (As : List Value) (W0 W1 : va_W) : Prop := CN l D tys M rm As W0 (fun _ : Unit => True) (fun _ => W1) 0 0
def okc (M : MI) (n : Nat) : Prop := M.1.cls ≠ "java/lang/invoke/MethodHandle" ∧ M.1.cls ≠ "java/lang/invoke/VarHandle" ∧ (parseMethodDescriptor M.1.desc).map (fun d => d.parameters.length) = some n
/-- the words of a call: virtual, static, of a constructor; and of a nest mate's -/
def cwv (own : String) (idx : Nat) (M : MI) (n : Nat) : Prop := .methodLink own idx M.1 ∈ wT ∧ .instanceMethod M.1 ∈ wT ∧ .selects M.1.cls M.1 M.1 ∈ wT ∧ .initialized M.1.cls ∈ wT ∧ .code M.1 M.2.1 M.2.2.1 M.2.2.2 ∈ wT ∧ okc M n
def cws (own : String) (idx : Nat) (M : MI) (n : Nat) : Prop := .methodLink own idx M.1 ∈ wT ∧ .static M.1 ∈ wT ∧ .initialized M.1.cls ∈ wT ∧ .code M.1 M.2.1 M.2.2.1 M.2.2.2 ∈ wT ∧ okc M n
def cwi (own : String) (idx : Nat) (M : MI) (n : Nat) : Prop := .methodLink own idx M.1 ∈ wT ∧ .instanceMethod M.1 ∈ wT ∧ .initialized M.1.cls ∈ wT ∧ .code M.1 M.2.1 M.2.2.1 M.2.2.2 ∈ wT ∧ M.1.name = "<init>" ∧ okc M n
def cwsN (own : String) (idx : Nat) (M : MI) (n : Nat) (host : String) : Prop := (own, idx, M.1, host) ∈ wN ∧ .static M.1 ∈ wT ∧ .initialized M.1.cls ∈ wT ∧ .code M.1 M.2.1 M.2.2.1 M.2.2.2 ∈ wT ∧ okc M n
def cwiN (own : String) (idx : Nat) (M : MI) (n : Nat) (host : String) : Prop := (own, idx, M.1, host) ∈ wN ∧ .instanceMethod M.1 ∈ wT ∧ .initialized M.1.cls ∈ wT ∧ .code M.1 M.2.1 M.2.2.1 M.2.2.2 ∈ wT ∧ M.1.name = "<init>" ∧ okc M n
theorem good_cons {y : MethodName} {b : ByteArray} {n : Nat} {r : Option FieldType} (h : .code y b n r ∈ wT) : GoodIn wT (.code y b n r :: wT) := by
  intro w hw
  rcases List.mem_cons.mp hw with e | e
  · subst e; exact wT_good _ h
  · exact wT_good _ e
section VR
variable {p : Program} {l : Launch} {e : Env} {R : Room} {s : State} {m : MethodId} {args : Array Value} {below : List Frame} {meth : Method} {c : Code}
variable {cc : ByteArray} {nL : Nat} {own : String} {D : va_G} {tys : TyS} {A : Nat → Prop} {cells slots : Nat} {Q : State → Prop}
variable {ws ws' : va_W} {lv lv' : List (Nat × Value)} {st rest : List Value} {pc n : Nat}
theorem V.iconst (C : Cx p s m args meth c cc nL own D tys A) {z : Int} {v : Int32} (hdg : decode cc pc = .ok (.iconst z, 1)) (hv : Int32.ofInt z = v) (hn : pc + 1 = n) (k : V p l e R s m args below meth c nL D A cells slots Q ws lv n (.int v :: st)) : V p l e R s m args below meth c nL D A cells slots Q ws lv pc st := by
  subst hn
  intro H locs ls hP hD hS hl
  exact lv_iconst C.1 C.2.1 hdg hv (k H locs ls hP hD hS hl)
theorem V.bipush (C : Cx p s m args meth c cc nL own D tys A) {z : Int} {v : Int32} (hdg : decode cc pc = .ok (.bipush z, 2)) (hv : (Int8.ofInt z).toInt32 = v) (hn : pc + 2 = n) (k : V p l e R s m args below meth c nL D A cells slots Q ws lv n (.int v :: st)) : V p l e R s m args below meth c nL D A cells slots Q ws lv pc st := by
  subst hn
  intro H locs ls hP hD hS hl
  exact lv_bipush C.1 C.2.1 hdg hv (k H locs ls hP hD hS hl)
theorem V.sipush (C : Cx p s m args meth c cc nL own D tys A) {z : Int} {v : Int32} (hdg : decode cc pc = .ok (.sipush z, 3)) (hv : (Int16.ofInt z).toInt32 = v) (hn : pc + 3 = n) (k : V p l e R s m args below meth c nL D A cells slots Q ws lv n (.int v :: st)) : V p l e R s m args below meth c nL D A cells slots Q ws lv pc st := by
  subst hn
  intro H locs ls hP hD hS hl
  exact lv_sipush C.1 C.2.1 hdg hv (k H locs ls hP hD hS hl)
theorem V.lconst (C : Cx p s m args meth c cc nL own D tys A) {z : Fin 2} {v : Int64} (hdg : decode cc pc = .ok (.lconst z, 1)) (hv : Int64.ofNat (z : Nat) = v) (hn : pc + 1 = n) (k : V p l e R s m args below meth c nL D A cells slots Q ws lv n (.long v :: st)) : V p l e R s m args below meth c nL D A cells slots Q ws lv pc st := by
  subst hn
  intro H locs ls hP hD hS hl
  exact lv_lconst C.1 C.2.1 hdg hv (k H locs ls hP hD hS hl)
theorem V.iload_n (C : Cx p s m args meth c cc nL own D tys A) {f : Fin 4} {i j : Nat} {x : Int32} (hdg : decode cc pc = .ok (.iload_n f, 1)) (hi : (f : Nat) = i) (hl : lv[j]? = some (i, .int x)) (hn : pc + 1 = n) (k : V p l e R s m args below meth c nL D A cells slots Q ws lv n (.int x :: st)) : V p l e R s m args below meth c nL D A cells slots Q ws lv pc st := by
  subst hn
  intro H locs ls hP hD hS hl0
  exact lv_iload_n C.1 C.2.1 hdg hi (lv_at hl0 j hl) (k H locs ls hP hD hS hl0)
theorem V.iload (C : Cx p s m args meth c cc nL own D tys A) {i j : Nat} {x : Int32} (hdg : decode cc pc = .ok (.iload i, 2)) (hl : lv[j]? = some (i, .int x)) (hn : pc + 2 = n) (k : V p l e R s m args below meth c nL D A cells slots Q ws lv n (.int x :: st)) : V p l e R s m args below meth c nL D A cells slots Q ws lv pc st := by
  subst hn
  intro H locs ls hP hD hS hl0
  exact lv_iload C.1 C.2.1 hdg (lv_at hl0 j hl) (k H locs ls hP hD hS hl0)
theorem V.lload_n (C : Cx p s m args meth c cc nL own D tys A) {f : Fin 4} {i j : Nat} {x : Int64} (hdg : decode cc pc = .ok (.lload_n f, 1)) (hi : (f : Nat) = i) (hl : lv[j]? = some (i, .long x)) (hn : pc + 1 = n) (k : V p l e R s m args below meth c nL D A cells slots Q ws lv n (.long x :: st)) : V p l e R s m args below meth c nL D A cells slots Q ws lv pc st := by
  subst hn
  intro H locs ls hP hD hS hl0
  exact lv_lload_n C.1 C.2.1 hdg hi (lv_at hl0 j hl) (k H locs ls hP hD hS hl0)
theorem V.lload (C : Cx p s m args meth c cc nL own D tys A) {i j : Nat} {x : Int64} (hdg : decode cc pc = .ok (.lload i, 2)) (hl : lv[j]? = some (i, .long x)) (hn : pc + 2 = n) (k : V p l e R s m args below meth c nL D A cells slots Q ws lv n (.long x :: st)) : V p l e R s m args below meth c nL D A cells slots Q ws lv pc st := by
  subst hn
  intro H locs ls hP hD hS hl0
  exact lv_lload C.1 C.2.1 hdg (lv_at hl0 j hl) (k H locs ls hP hD hS hl0)
theorem V.aload_n (C : Cx p s m args meth c cc nL own D tys A) {f : Fin 4} {i j : Nat} {x : Nat} (hdg : decode cc pc = .ok (.aload_n f, 1)) (hi : (f : Nat) = i) (hl : lv[j]? = some (i, .ref x)) (hn : pc + 1 = n) (k : V p l e R s m args below meth c nL D A cells slots Q ws lv n (.ref x :: st)) : V p l e R s m args below meth c nL D A cells slots Q ws lv pc st := by
  subst hn
  intro H locs ls hP hD hS hl0
  exact lv_aload_n C.1 C.2.1 hdg hi (lv_at hl0 j hl) (k H locs ls hP hD hS hl0)
theorem V.aload (C : Cx p s m args meth c cc nL own D tys A) {i j : Nat} {x : Nat} (hdg : decode cc pc = .ok (.aload i, 2)) (hl : lv[j]? = some (i, .ref x)) (hn : pc + 2 = n) (k : V p l e R s m args below meth c nL D A cells slots Q ws lv n (.ref x :: st)) : V p l e R s m args below meth c nL D A cells slots Q ws lv pc st := by
  subst hn
  intro H locs ls hP hD hS hl0
  exact lv_aload C.1 C.2.1 hdg (lv_at hl0 j hl) (k H locs ls hP hD hS hl0)
theorem V.istore_n (C : Cx p s m args meth c cc nL own D tys A) {f : Fin 4} {i : Nat} {x : Int32} (ks : List Nat) (hdg : decode cc pc = .ok (.istore_n f, 1)) (hi : (f : Nat) = i) (hL : i < nL) (hp : lv_pick ((i, .int x) :: lv.filter (fun q => !(q.1 == i) && !(q.1 + 1 == i && q.2.category == 2))) ks = lv') (hn : pc + 1 = n) (k : V p l e R s m args below meth c nL D A cells slots Q ws lv' n st) : V p l e R s m args below meth c nL D A cells slots Q ws lv pc (.int x :: st) := by
  subst hn
  intro H locs ls hP hD hS hl
  exact lv_istore_n C.1 C.2.1 hdg hi hl hL rfl (fun ls' hl' => k H locs ls' hP hD hS (lv_sub hl' ks hp))
theorem V.istore (C : Cx p s m args meth c cc nL own D tys A) {i : Nat} {x : Int32} (ks : List Nat) (hdg : decode cc pc = .ok (.istore i, 2)) (hL : i < nL) (hp : lv_pick ((i, .int x) :: lv.filter (fun q => !(q.1 == i) && !(q.1 + 1 == i && q.2.category == 2))) ks = lv') (hn : pc + 2 = n) (k : V p l e R s m args below meth c nL D A cells slots Q ws lv' n st) : V p l e R s m args below meth c nL D A cells slots Q ws lv pc (.int x :: st) := by
  subst hn
  intro H locs ls hP hD hS hl
  exact lv_istore C.1 C.2.1 hdg hl hL rfl (fun ls' hl' => k H locs ls' hP hD hS (lv_sub hl' ks hp))
theorem V.astore_n (C : Cx p s m args meth c cc nL own D tys A) {f : Fin 4} {i : Nat} {x : Nat} (ks : List Nat) (hdg : decode cc pc = .ok (.astore_n f, 1)) (hi : (f : Nat) = i) (hL : i < nL) (hp : lv_pick ((i, .ref x) :: lv.filter (fun q => !(q.1 == i) && !(q.1 + 1 == i && q.2.category == 2))) ks = lv') (hn : pc + 1 = n) (k : V p l e R s m args below meth c nL D A cells slots Q ws lv' n st) : V p l e R s m args below meth c nL D A cells slots Q ws lv pc (.ref x :: st) := by
  subst hn
  intro H locs ls hP hD hS hl
  exact lv_astore_n C.1 C.2.1 hdg hi hl hL rfl (fun ls' hl' => k H locs ls' hP hD hS (lv_sub hl' ks hp))
theorem V.astore (C : Cx p s m args meth c cc nL own D tys A) {i : Nat} {x : Nat} (ks : List Nat) (hdg : decode cc pc = .ok (.astore i, 2)) (hL : i < nL) (hp : lv_pick ((i, .ref x) :: lv.filter (fun q => !(q.1 == i) && !(q.1 + 1 == i && q.2.category == 2))) ks = lv') (hn : pc + 2 = n) (k : V p l e R s m args below meth c nL D A cells slots Q ws lv' n st) : V p l e R s m args below meth c nL D A cells slots Q ws lv pc (.ref x :: st) := by
  subst hn
  intro H locs ls hP hD hS hl
  exact lv_astore C.1 C.2.1 hdg hl hL rfl (fun ls' hl' => k H locs ls' hP hD hS (lv_sub hl' ks hp))
theorem V.lstore_n (C : Cx p s m args meth c cc nL own D tys A) {f : Fin 4} {i : Nat} {x : Int64} (ks : List Nat) (hdg : decode cc pc = .ok (.lstore_n f, 1)) (hi : (f : Nat) = i) (hL : i + 1 < nL) (hp : lv_pick ((i, .long x) :: lv.filter (fun q => !(q.1 == i) && (!(q.1 == i + 1) && !(q.1 + 1 == i && q.2.category == 2)))) ks = lv') (hn : pc + 1 = n) (k : V p l e R s m args below meth c nL D A cells slots Q ws lv' n st) : V p l e R s m args below meth c nL D A cells slots Q ws lv pc (.long x :: st) := by
  subst hn
  intro H locs ls hP hD hS hl
  exact lv_lstore_n C.1 C.2.1 hdg hi hl hL rfl (fun ls' hl' => k H locs ls' hP hD hS (lv_sub hl' ks hp))
theorem V.lstore (C : Cx p s m args meth c cc nL own D tys A) {i : Nat} {x : Int64} (ks : List Nat) (hdg : decode cc pc = .ok (.lstore i, 2)) (hL : i + 1 < nL) (hp : lv_pick ((i, .long x) :: lv.filter (fun q => !(q.1 == i) && (!(q.1 == i + 1) && !(q.1 + 1 == i && q.2.category == 2)))) ks = lv') (hn : pc + 2 = n) (k : V p l e R s m args below meth c nL D A cells slots Q ws lv' n st) : V p l e R s m args below meth c nL D A cells slots Q ws lv pc (.long x :: st) := by
  subst hn
  intro H locs ls hP hD hS hl
  exact lv_lstore C.1 C.2.1 hdg hl hL rfl (fun ls' hl' => k H locs ls' hP hD hS (lv_sub hl' ks hp))
theorem V.iinc (C : Cx p s m args meth c cc nL own D tys A) {i j : Nat} {z : Int} {x v : Int32} (ks : List Nat) (hdg : decode cc pc = .ok (.iinc i z, 3)) (hj : lv[j]? = some (i, .int x)) (hv : x + Int32.ofInt z = v) (hL : i < nL) (hp : lv_pick ((i, .int v) :: lv.filter (fun q => !(q.1 == i) && !(q.1 + 1 == i && q.2.category == 2))) ks = lv') (hn : pc + 3 = n) (k : V p l e R s m args below meth c nL D A cells slots Q ws lv' n st) : V p l e R s m args below meth c nL D A cells slots Q ws lv pc st := by
  subst hn
  intro H locs ls hP hD hS hl
  exact lv_iinc C.1 C.2.1 hdg hl hj hv hL rfl (fun ls' hl' => k H locs ls' hP hD hS (lv_sub hl' ks hp))
theorem V.dup (C : Cx p s m args meth c cc nL own D tys A) {v : Value} (hdg : decode cc pc = .ok (.dup, 1)) (hv : v.category = 1) (hn : pc + 1 = n) (k : V p l e R s m args below meth c nL D A cells slots Q ws lv n (v :: v :: st)) : V p l e R s m args below meth c nL D A cells slots Q ws lv pc (v :: st) := by
  subst hn
  intro H locs ls hP hD hS hl
  exact lv_dup C.1 C.2.1 hdg hv (k H locs ls hP hD hS hl)
theorem V.pop (C : Cx p s m args meth c cc nL own D tys A) {v : Value} (hdg : decode cc pc = .ok (.pop, 1)) (hv : v.category = 1) (hn : pc + 1 = n) (k : V p l e R s m args below meth c nL D A cells slots Q ws lv n st) : V p l e R s m args below meth c nL D A cells slots Q ws lv pc (v :: st) := by
  subst hn
  intro H locs ls hP hD hS hl
  exact lv_pop C.1 C.2.1 hdg hv (k H locs ls hP hD hS hl)
theorem V.dup2 (C : Cx p s m args meth c cc nL own D tys A) {v w : Value} (hdg : decode cc pc = .ok (.dup2, 1)) (hv : v.category = 1) (hw : w.category = 1) (hn : pc + 1 = n) (k : V p l e R s m args below meth c nL D A cells slots Q ws lv n (v :: w :: v :: w :: st)) : V p l e R s m args below meth c nL D A cells slots Q ws lv pc (v :: w :: st) := by
  subst hn
  intro H locs ls hP hD hS hl
  exact lv_dup2_11 C.1 C.2.1 hdg hv hw (k H locs ls hP hD hS hl)
theorem V.iadd_n (C : Cx p s m args meth c cc nL own D tys A) {a b : Nat} (hdg : decode cc pc = .ok (.iadd, 1)) (hn : pc + 1 = n) (k : V p l e R s m args below meth c nL D A cells slots Q ws lv n (.int (nI (a + b)) :: st)) : V p l e R s m args below meth c nL D A cells slots Q ws lv pc (.int (nI b) :: .int (nI a) :: st) := by
  subst hn
  intro H locs ls hP hD hS hl
  refine lv_iadd C.1 C.2.1 hdg ?_
  rw [show nI a + nI b = nI (a + b) from nI_add a b]
  exact k H locs ls hP hD hS hl
theorem V.isub_n (C : Cx p s m args meth c cc nL own D tys A) {a b : Nat} (hdg : decode cc pc = .ok (.isub, 1)) (h : b ≤ a) (hn : pc + 1 = n) (k : V p l e R s m args below meth c nL D A cells slots Q ws lv n (.int (nI (a - b)) :: st)) : V p l e R s m args below meth c nL D A cells slots Q ws lv pc (.int (nI b) :: .int (nI a) :: st) := by
  subst hn
  intro H locs ls hP hD hS hl
  refine lv_isub C.1 C.2.1 hdg ?_
  rw [show nI a - nI b = nI (a - b) from pk_sub h]
  exact k H locs ls hP hD hS hl
theorem V.imul_n (C : Cx p s m args meth c cc nL own D tys A) {a b : Nat} (hdg : decode cc pc = .ok (.imul, 1)) (hn : pc + 1 = n) (k : V p l e R s m args below meth c nL D A cells slots Q ws lv n (.int (nI (a * b)) :: st)) : V p l e R s m args below meth c nL D A cells slots Q ws lv pc (.int (nI b) :: .int (nI a) :: st) := by
  subst hn
  intro H locs ls hP hD hS hl
  refine lv_imul C.1 C.2.1 hdg ?_
  rw [show nI a * nI b = nI (a * b) from pk_mul a b]
  exact k H locs ls hP hD hS hl
theorem V.idiv_n (C : Cx p s m args meth c cc nL own D tys A) {a b : Nat} (hdg : decode cc pc = .ok (.idiv, 1)) (ha : a < 2147483648) (h0 : 0 < b) (hb : b < 2147483648) (hn : pc + 1 = n) (k : V p l e R s m args below meth c nL D A cells slots Q ws lv n (.int (nI (a / b)) :: st)) : V p l e R s m args below meth c nL D A cells slots Q ws lv pc (.int (nI b) :: .int (nI a) :: st) := by
  subst hn
  intro H locs ls hP hD hS hl
  refine lv_idiv C.1 C.2.1 hdg (nI_ne0 h0 (by simpa using hb)) ?_
  rw [show nI a / nI b = nI (a / b) from pk_div (by simpa using ha) h0 (by simpa using hb)]
  exact k H locs ls hP hD hS hl
theorem V.irem_n (C : Cx p s m args meth c cc nL own D tys A) {a b : Nat} (hdg : decode cc pc = .ok (.irem, 1)) (ha : a < 2147483648) (h0 : 0 < b) (hb : b < 2147483648) (hn : pc + 1 = n) (k : V p l e R s m args below meth c nL D A cells slots Q ws lv n (.int (nI (a % b)) :: st)) : V p l e R s m args below meth c nL D A cells slots Q ws lv pc (.int (nI b) :: .int (nI a) :: st) := by
  subst hn
  intro H locs ls hP hD hS hl
  refine lv_irem C.1 C.2.1 hdg (nI_ne0 h0 (by simpa using hb)) ?_
  rw [show nI a - nI a / nI b * nI b = nI (a % b) from pk_rem (by simpa using ha) h0 (by simpa using hb)]
  exact k H locs ls hP hD hS hl
theorem V.iadd_z (C : Cx p s m args meth c cc nL own D tys A) {X Y : Int} {x y : Int32} (hdg : decode cc pc = .ok (.iadd, 1)) (ex : x = iI X) (ey : y = iI Y) (hn : pc + 1 = n) (k : V p l e R s m args below meth c nL D A cells slots Q ws lv n (.int (iI (X + Y)) :: st)) : V p l e R s m args below meth c nL D A cells slots Q ws lv pc (.int y :: .int x :: st) := by
  subst hn
  subst ex
  subst ey
  intro H locs ls hP hD hS hl
  refine lv_iadd C.1 C.2.1 hdg ?_
  rw [iI_add]
  exact k H locs ls hP hD hS hl
theorem V.isub_z (C : Cx p s m args meth c cc nL own D tys A) {X Y : Int} {x y : Int32} (hdg : decode cc pc = .ok (.isub, 1)) (ex : x = iI X) (ey : y = iI Y) (hn : pc + 1 = n) (k : V p l e R s m args below meth c nL D A cells slots Q ws lv n (.int (iI (X - Y)) :: st)) : V p l e R s m args below meth c nL D A cells slots Q ws lv pc (.int y :: .int x :: st) := by
  subst hn
  subst ex
  subst ey
  intro H locs ls hP hD hS hl
  refine lv_isub C.1 C.2.1 hdg ?_
  rw [iI_sub]
  exact k H locs ls hP hD hS hl
theorem V.imul_z (C : Cx p s m args meth c cc nL own D tys A) {X Y : Int} {x y : Int32} (hdg : decode cc pc = .ok (.imul, 1)) (ex : x = iI X) (ey : y = iI Y) (hn : pc + 1 = n) (k : V p l e R s m args below meth c nL D A cells slots Q ws lv n (.int (iI (X * Y)) :: st)) : V p l e R s m args below meth c nL D A cells slots Q ws lv pc (.int y :: .int x :: st) := by
  subst hn
  subst ex
  subst ey
  intro H locs ls hP hD hS hl
  refine lv_imul C.1 C.2.1 hdg ?_
  rw [iI_mul]
  exact k H locs ls hP hD hS hl
theorem V.ineg_z (C : Cx p s m args meth c cc nL own D tys A) {X : Int} {x : Int32} (hdg : decode cc pc = .ok (.ineg, 1)) (ex : x = iI X) (hn : pc + 1 = n) (k : V p l e R s m args below meth c nL D A cells slots Q ws lv n (.int (iI (-X)) :: st)) : V p l e R s m args below meth c nL D A cells slots Q ws lv pc (.int x :: st) := by
  subst hn
  subst ex
  intro H locs ls hP hD hS hl
  refine lv_ineg C.1 C.2.1 hdg ?_
  rw [iI_neg]
  exact k H locs ls hP hD hS hl
theorem V.iadd_r (C : Cx p s m args meth c cc nL own D tys A) {x y v : Int32} (hdg : decode cc pc = .ok (.iadd, 1)) (hv : x + y = v) (hn : pc + 1 = n) (k : V p l e R s m args below meth c nL D A cells slots Q ws lv n (.int v :: st)) : V p l e R s m args below meth c nL D A cells slots Q ws lv pc (.int y :: .int x :: st) := by
  subst hn
  subst hv
  intro H locs ls hP hD hS hl
  exact lv_iadd C.1 C.2.1 hdg (k H locs ls hP hD hS hl)
theorem V.isub_r (C : Cx p s m args meth c cc nL own D tys A) {x y v : Int32} (hdg : decode cc pc = .ok (.isub, 1)) (hv : x - y = v) (hn : pc + 1 = n) (k : V p l e R s m args below meth c nL D A cells slots Q ws lv n (.int v :: st)) : V p l e R s m args below meth c nL D A cells slots Q ws lv pc (.int y :: .int x :: st) := by
  subst hn
  subst hv
  intro H locs ls hP hD hS hl
  exact lv_isub C.1 C.2.1 hdg (k H locs ls hP hD hS hl)
theorem V.iand_r (C : Cx p s m args meth c cc nL own D tys A) {x y v : Int32} (hdg : decode cc pc = .ok (.iand, 1)) (hv : x &&& y = v) (hn : pc + 1 = n) (k : V p l e R s m args below meth c nL D A cells slots Q ws lv n (.int v :: st)) : V p l e R s m args below meth c nL D A cells slots Q ws lv pc (.int y :: .int x :: st) := by
  subst hn
  subst hv
  intro H locs ls hP hD hS hl
  exact lv_iand C.1 C.2.1 hdg (k H locs ls hP hD hS hl)
theorem V.iushr_r (C : Cx p s m args meth c cc nL own D tys A) {x y v : Int32} (hdg : decode cc pc = .ok (.iushr, 1)) (hv : (x.toUInt32 >>> (y.toUInt32 &&& Int32.toUInt32 31)).toInt32 = v) (hn : pc + 1 = n) (k : V p l e R s m args below meth c nL D A cells slots Q ws lv n (.int v :: st)) : V p l e R s m args below meth c nL D A cells slots Q ws lv pc (.int y :: .int x :: st) := by
  subst hn
  subst hv
  intro H locs ls hP hD hS hl
  exact lv_iushr C.1 C.2.1 hdg rfl (k H locs ls hP hD hS hl)
theorem V.i2c_r (C : Cx p s m args meth c cc nL own D tys A) {x v : Int32} (hdg : decode cc pc = .ok (.i2c, 1)) (hv : (x.toUInt32 % 65536).toInt32 = v) (hn : pc + 1 = n) (k : V p l e R s m args below meth c nL D A cells slots Q ws lv n (.int v :: st)) : V p l e R s m args below meth c nL D A cells slots Q ws lv pc (.int x :: st) := by
  subst hn
  subst hv
  intro H locs ls hP hD hS hl
  exact lv_i2c C.1 C.2.1 hdg rfl (k H locs ls hP hD hS hl)
theorem V.i2c_n (C : Cx p s m args meth c cc nL own D tys A) {a : Nat} (h : a < 65536) (hdg : decode cc pc = .ok (.i2c, 1)) (hn : pc + 1 = n) (k : V p l e R s m args below meth c nL D A cells slots Q ws lv n (.int (nI a) :: st)) : V p l e R s m args below meth c nL D A cells slots Q ws lv pc (.int (nI a) :: st) := by
  exact V.i2c_r C hdg (by rw [pk_char, pk_tn (by omega), Nat.mod_eq_of_lt h]) hn k
theorem V.join (C : Cx p s m args meth c cc nL own D tys A) {lv9 : List (Nat × Value)} {ws9 : va_W} {n9 : Nat} {st9 : List Value} (k : V p l e R s m args below meth c nL D A cells slots Q ws9 lv9 n9 st9) (f : V p l e R s m args below meth c nL D A cells slots Q ws9 lv9 n9 st9 → V p l e R s m args below meth c nL D A cells slots Q ws lv pc st) : V p l e R s m args below meth c nL D A cells slots Q ws lv pc st := by
  exact f k
theorem V.lcmp (C : Cx p s m args meth c cc nL own D tys A) {x y : Int64} (hdg : decode cc pc = .ok (.lcmp, 1)) (hn : pc + 1 = n) (k : V p l e R s m args below meth c nL D A cells slots Q ws lv n (.int (lg_cmp x y) :: st)) : V p l e R s m args below meth c nL D A cells slots Q ws lv pc (.long y :: .long x :: st) := by
  subst hn
  intro H locs ls hP hD hS hl
  exact W.lcmp C.1 C.2.1 hdg (k H locs ls hP hD hS hl)
theorem V.ladd (C : Cx p s m args meth c cc nL own D tys A) {x y v : Int64} (hdg : decode cc pc = .ok (.ladd, 1)) (hv : x + y = v) (hn : pc + 1 = n) (k : V p l e R s m args below meth c nL D A cells slots Q ws lv n (.long v :: st)) : V p l e R s m args below meth c nL D A cells slots Q ws lv pc (.long y :: .long x :: st) := by
  subst hn
  subst hv
  intro H locs ls hP hD hS hl
  exact lv_ladd C.1 C.2.1 hdg (k H locs ls hP hD hS hl)
theorem V.ldcS (C : Cx p s m args meth c cc nL own D tys A) {tx : String} {idx i0 : Nat} (hw : (own, idx, tx, i0) ∈ sRf) (hdg : decode cc pc = .ok (.ldc idx, 2)) (hn : pc + 2 = n) (k : V p l e R s m args below meth c nL D A cells slots Q ws lv n (.ref (tys.2 i0) :: st)) : V p l e R s m args below meth c nL D A cells slots Q ws lv pc st := by
  subst hn
  intro H locs ls hP hD hS hl
  exact va_ldcS C.1 C.2.1 C.2.2.2.1 (C.2.2.2.2.2.2.2.2.2.1 _ hw) hdg (k H locs ls hP hD hS hl)
theorem strRecv (C : Cx p s m args meth c cc nL own D tys A) {i : Nat} (hi : i < nSt) : ∀ (H : Heap) (locs : List Loc), va_S A s.heap H locs → ∃ cell : Cell, H[tys.2 i]? = some cell ∧ cell.vm.isStatics = false ∧ s.vm.findClass "java/lang/String" = some cell.cls := fun H locs hS => vk_recv C.2.2.2.2.2.2.2.2.2.2.1 hi hS
theorem V.getCS (C : Cx p s m args meth c cc nL own D tys A) {idx : Nat} (hw : .fieldLink own idx "java/lang/String" "COMPACT_STRINGS" "Z" ∈ wT) (hdg : decode cc pc = .ok (.getstatic idx, 3)) (hn : pc + 3 = n) (k : V p l e R s m args below meth c nL D A cells slots Q ws lv n (.int (nI 1) :: st)) : V p l e R s m args below meth c nL D A cells slots Q ws lv pc st := by
  subst hn
  intro H locs ls hP hD hS hl
  exact va_gets C.1 C.2.1 C.2.2.2.2.2.2.2.2.2.2.2.1 hS C.2.2.2.1 (C.2.2.2.2.1 _ hw) (fun _ h => h) hdg (k H locs ls hP hD hS hl)
theorem V.getSF (C : Cx p s m args meth c cc nL own D tys A) {idx : Nat} (hw : .fieldLink own idx "jdk/internal/util/Preconditions" "SIOOBE_FORMATTER" "Ljava/util/function/BiFunction;" ∈ wT) (hdg : decode cc pc = .ok (.getstatic idx, 3)) (hn : pc + 3 = n) (k : ∀ v : Value, (v = .null ∨ ∃ a : Nat, v = .ref a) → V p l e R s m args below meth c nL D A cells slots Q ws lv n (v :: st)) : V p l e R s m args below meth c nL D A cells slots Q ws lv pc st := by
  subst hn
  obtain ⟨v, h1, h2⟩ := C.2.2.2.2.2.2.2.2.2.2.2.2
  intro H locs ls hP hD hS hl
  exact va_gets C.1 C.2.1 h2 hS C.2.2.2.1 (C.2.2.2.2.1 _ hw) (fun _ h => h) hdg (k v h1 H locs ls hP hD hS hl)
theorem V.getKc (C : Cx p s m args meth c cc nL own D tys A) {idx i : Nat} (hi : i < nSt) (hw : .fieldLink own idx "java/lang/String" "coder" "B" ∈ wT) (hdg : decode cc pc = .ok (.getfield idx, 3)) (hn : pc + 3 = n) (k : V p l e R s m args below meth c nL D A cells slots Q ws lv n (.int (nI 0) :: st)) : V p l e R s m args below meth c nL D A cells slots Q ws lv pc (.ref (tys.2 i) :: st) := by
  subst hn
  intro H locs ls hP hD hS hl
  exact vk_getf C.1 C.2.1 (C.2.2.2.2.2.2.2.2.2.2.1.1 i hi).2.1 hS C.2.2.2.1 (C.2.2.2.2.1 _ hw) (fun _ h => h) hdg (k H locs ls hP hD hS hl)
theorem V.getKv (C : Cx p s m args meth c cc nL own D tys A) {idx i : Nat} (hi : i < nSt) (hw : .fieldLink own idx "java/lang/String" "value" "[B" ∈ wT) (hdg : decode cc pc = .ok (.getfield idx, 3)) (hn : pc + 3 = n) (k : V p l e R s m args below meth c nL D A cells slots Q ws lv n (.ref (tys.2 (i + nSt)) :: st)) : V p l e R s m args below meth c nL D A cells slots Q ws lv pc (.ref (tys.2 i) :: st) := by
  subst hn
  intro H locs ls hP hD hS hl
  exact vk_getf C.1 C.2.1 (C.2.2.2.2.2.2.2.2.2.2.1.1 i hi).2.2.1 hS C.2.2.2.1 (C.2.2.2.2.1 _ hw) (fun _ h => h) hdg (k H locs ls hP hD hS hl)
theorem V.tlen (C : Cx p s m args meth c cc nL own D tys A) {i : Nat} (hi : i < nSt) (hdg : decode cc pc = .ok (.arraylength, 1)) (hn : pc + 1 = n) (k : V p l e R s m args below meth c nL D A cells slots Q ws lv n (.int (nI (sln i)) :: st)) : V p l e R s m args below meth c nL D A cells slots Q ws lv pc (.ref (tys.2 (i + nSt)) :: st) := by
  subst hn
  intro H locs ls hP hD hS hl
  exact va_tlen C.1 C.2.1 (C.2.2.2.2.2.2.2.2.2.2.1.1 i hi).2.2.2 hS rfl hdg (k H locs ls hP hD hS hl)
theorem V.tb (C : Cx p s m args meth c cc nL own D tys A) {i j : Nat} (hi : i < nSt) (hj : j < sln i) (hdg : decode cc pc = .ok (.baload, 1)) (hn : pc + 1 = n) (k : V p l e R s m args below meth c nL D A cells slots Q ws lv n (.int ((sByt.getD i []).getD j 0) :: st)) : V p l e R s m args below meth c nL D A cells slots Q ws lv pc (.int (nI j) :: .ref (tys.2 (i + nSt)) :: st) := by
  subst hn
  intro H locs ls hP hD hS hl
  exact va_tb C.1 C.2.1 (C.2.2.2.2.2.2.2.2.2.2.1.1 i hi).2.2.2 hS (vp_in_nI hj (Nat.lt_of_le_of_lt (sln_le i) (by decide))) (by rw [nI_clamp (Nat.lt_trans hj (Nat.lt_of_le_of_lt (sln_le i) (by decide)))]) hdg (k H locs ls hP hD hS hl)
theorem V.ishr_r (C : Cx p s m args meth c cc nL own D tys A) {x y v : Int32} (hdg : decode cc pc = .ok (.ishr, 1)) (hv : x >>> (y &&& 31) = v) (hn : pc + 1 = n) (k : V p l e R s m args below meth c nL D A cells slots Q ws lv n (.int v :: st)) : V p l e R s m args below meth c nL D A cells slots Q ws lv pc (.int y :: .int x :: st) := by
  subst hn
  subst hv
  intro H locs ls hP hD hS hl
  exact lv_ishr C.1 C.2.1 hdg (k H locs ls hP hD hS hl)
theorem V.ldc2 (C : Cx p s m args meth c cc nL own D tys A) {v : Int64} {idx : Nat} (hw : .constantLong own idx v ∈ wT) (hdg : decode cc pc = .ok (.ldc2_w idx, 3)) (hn : pc + 3 = n) (k : V p l e R s m args below meth c nL D A cells slots Q ws lv n (.long v :: st)) : V p l e R s m args below meth c nL D A cells slots Q ws lv pc st := by
  subst hn
  intro H locs ls hP hD hS hl
  exact lv_ldc2 C.1 C.2.1 C.2.2.2.1 (C.2.2.2.2.1 _ hw) hdg (k H locs ls hP hD hS hl)
theorem V.ifl_lt (C : Cx p s m args meth c cc nL own D tys A) {X Y : Int} {x y : Int64} {off : Int} {tgt : Nat} (ex : x.toInt = X) (ey : y.toInt = Y) (hdg : decode cc pc = .ok (.ifCond .lt off, 3)) (ht : (pc : Int) + off = (tgt : Int)) (hn : pc + 3 = n) (kt : X < Y → V p l e R s m args below meth c nL D A cells slots Q ws lv tgt st) (kf : Y ≤ X → V p l e R s m args below meth c nL D A cells slots Q ws lv n st) : V p l e R s m args below meth c nL D A cells slots Q ws lv pc (.int (lg_cmp x y) :: st) := by
  subst hn
  intro H locs ls hP hD hS hl
  have h9 : X < Y ↔ lg_cmp x y < 0 := by rw [← ex, ← ey]; exact (Int64.lt_iff_toInt_lt.symm.trans (lg_cmp_lt x y).symm)
  exact lv_if_lt C.1 C.2.1 hdg ht (fun c9 => kt (h9.mpr c9) H locs ls hP hD hS hl) (fun c9 => kf (Int.not_lt.mp (fun q => c9 (h9.mp q))) H locs ls hP hD hS hl)
theorem V.ifl_ge (C : Cx p s m args meth c cc nL own D tys A) {X Y : Int} {x y : Int64} {off : Int} {tgt : Nat} (ex : x.toInt = X) (ey : y.toInt = Y) (hdg : decode cc pc = .ok (.ifCond .ge off, 3)) (ht : (pc : Int) + off = (tgt : Int)) (hn : pc + 3 = n) (kt : Y ≤ X → V p l e R s m args below meth c nL D A cells slots Q ws lv tgt st) (kf : X < Y → V p l e R s m args below meth c nL D A cells slots Q ws lv n st) : V p l e R s m args below meth c nL D A cells slots Q ws lv pc (.int (lg_cmp x y) :: st) := by
  subst hn
  intro H locs ls hP hD hS hl
  have h9 : Y ≤ X ↔ 0 ≤ lg_cmp x y := by rw [← ex, ← ey]; exact (Int64.le_iff_toInt_le.symm.trans (lg_cmp_ge x y).symm)
  exact lv_if_ge C.1 C.2.1 hdg ht (fun c9 => kt (h9.mpr c9) H locs ls hP hD hS hl) (fun c9 => kf (Int.not_le.mp (fun q => c9 (h9.mp q))) H locs ls hP hD hS hl)
theorem V.ifl_gt (C : Cx p s m args meth c cc nL own D tys A) {X Y : Int} {x y : Int64} {off : Int} {tgt : Nat} (ex : x.toInt = X) (ey : y.toInt = Y) (hdg : decode cc pc = .ok (.ifCond .gt off, 3)) (ht : (pc : Int) + off = (tgt : Int)) (hn : pc + 3 = n) (kt : Y < X → V p l e R s m args below meth c nL D A cells slots Q ws lv tgt st) (kf : X ≤ Y → V p l e R s m args below meth c nL D A cells slots Q ws lv n st) : V p l e R s m args below meth c nL D A cells slots Q ws lv pc (.int (lg_cmp x y) :: st) := by
  subst hn
  intro H locs ls hP hD hS hl
  have h9 : Y < X ↔ 0 < lg_cmp x y := by rw [← ex, ← ey]; exact (Int64.lt_iff_toInt_lt.symm.trans (lg_cmp_gt x y).symm)
  exact lv_if_gt C.1 C.2.1 hdg ht (fun c9 => kt (h9.mpr c9) H locs ls hP hD hS hl) (fun c9 => kf (Int.not_lt.mp (fun q => c9 (h9.mp q))) H locs ls hP hD hS hl)
theorem V.ifl_le (C : Cx p s m args meth c cc nL own D tys A) {X Y : Int} {x y : Int64} {off : Int} {tgt : Nat} (ex : x.toInt = X) (ey : y.toInt = Y) (hdg : decode cc pc = .ok (.ifCond .le off, 3)) (ht : (pc : Int) + off = (tgt : Int)) (hn : pc + 3 = n) (kt : X ≤ Y → V p l e R s m args below meth c nL D A cells slots Q ws lv tgt st) (kf : Y < X → V p l e R s m args below meth c nL D A cells slots Q ws lv n st) : V p l e R s m args below meth c nL D A cells slots Q ws lv pc (.int (lg_cmp x y) :: st) := by
  subst hn
  intro H locs ls hP hD hS hl
  have h9 : X ≤ Y ↔ lg_cmp x y ≤ 0 := by rw [← ex, ← ey]; exact (Int64.le_iff_toInt_le.symm.trans (lg_cmp_le x y).symm)
  exact lv_if_le C.1 C.2.1 hdg ht (fun c9 => kt (h9.mpr c9) H locs ls hP hD hS hl) (fun c9 => kf (Int.not_le.mp (fun q => c9 (h9.mp q))) H locs ls hP hD hS hl)
theorem V.cv (C : Cx p s m args meth c cc nL own D tys A) {x y : Int32} (h : x = y) (k : V p l e R s m args below meth c nL D A cells slots Q ws lv pc (.int y :: st)) : V p l e R s m args below meth c nL D A cells slots Q ws lv pc (.int x :: st) := by
  subst h
  exact k
theorem V.stk (C : Cx p s m args meth c cc nL own D tys A) {st' : List Value} (h : st = st') (k : V p l e R s m args below meth c nL D A cells slots Q ws lv pc st') : V p l e R s m args below meth c nL D A cells slots Q ws lv pc st := by
  subst h
  exact k
theorem V.wo (C : Cx p s m args meth c cc nL own D tys A) (h : ws = ws') (k : V p l e R s m args below meth c nL D A cells slots Q ws' lv pc st) : V p l e R s m args below meth c nL D A cells slots Q ws lv pc st := by
  subst h
  exact k
theorem V.lsub (C : Cx p s m args meth c cc nL own D tys A) (ks : List Nat) (h : lv_pick lv ks = lv') (k : V p l e R s m args below meth c nL D A cells slots Q ws lv' pc st) : V p l e R s m args below meth c nL D A cells slots Q ws lv pc st := by
  intro H locs ls hP hD hS hl
  exact k H locs ls hP hD hS (lv_sub hl ks h)
theorem V.ind1 (C : Cx p s m args meth c cc nL own D tys A) {A1 : Type} (Wf : A1 → va_W) (Lf : A1 → List (Nat × Value)) (I : A1 → Prop) (μ : A1 → Nat) (z1 : A1) (h0 : I z1) (hw : ws = Wf z1) (hl : lv = Lf z1) (step : ∀ (x1 : A1), I x1 → (∀ (y1 : A1), I y1 → μ y1 < μ x1 → V p l e R s m args below meth c nL D A cells slots Q (Wf y1) (Lf y1) pc st) → V p l e R s m args below meth c nL D A cells slots Q (Wf x1) (Lf x1) pc st) : V p l e R s m args below meth c nL D A cells slots Q ws lv pc st := by
  subst hw
  subst hl
  have key : ∀ (k : Nat) (x1 : A1), μ x1 < k → I x1 → V p l e R s m args below meth c nL D A cells slots Q (Wf x1) (Lf x1) pc st := by
    intro k
    induction k with
    | zero => intro x1 h _; exact absurd h (Nat.not_lt_zero _)
    | succ k ih => intro x1 h hI; exact step x1 hI (fun y1 hJ hm => ih y1 (Nat.lt_of_lt_of_le hm (Nat.le_of_lt_succ h)) hJ)
  exact key (μ z1 + 1) z1 (Nat.lt_succ_self _) h0
theorem V.ind2 (C : Cx p s m args meth c cc nL own D tys A) {A1 A2 : Type} (Wf : A1 → A2 → va_W) (Lf : A1 → A2 → List (Nat × Value)) (I : A1 → A2 → Prop) (μ : A1 → A2 → Nat) (z1 : A1) (z2 : A2) (h0 : I z1 z2) (hw : ws = Wf z1 z2) (hl : lv = Lf z1 z2) (step : ∀ (x1 : A1) (x2 : A2), I x1 x2 → (∀ (y1 : A1) (y2 : A2), I y1 y2 → μ y1 y2 < μ x1 x2 → V p l e R s m args below meth c nL D A cells slots Q (Wf y1 y2) (Lf y1 y2) pc st) → V p l e R s m args below meth c nL D A cells slots Q (Wf x1 x2) (Lf x1 x2) pc st) : V p l e R s m args below meth c nL D A cells slots Q ws lv pc st := by
  subst hw
  subst hl
  have key : ∀ (k : Nat) (x1 : A1) (x2 : A2), μ x1 x2 < k → I x1 x2 → V p l e R s m args below meth c nL D A cells slots Q (Wf x1 x2) (Lf x1 x2) pc st := by
    intro k
    induction k with
    | zero => intro x1 x2 h _; exact absurd h (Nat.not_lt_zero _)
    | succ k ih => intro x1 x2 h hI; exact step x1 x2 hI (fun y1 y2 hJ hm => ih y1 y2 (Nat.lt_of_lt_of_le hm (Nat.le_of_lt_succ h)) hJ)
  exact key (μ z1 z2 + 1) z1 z2 (Nat.lt_succ_self _) h0
theorem V.ind3 (C : Cx p s m args meth c cc nL own D tys A) {A1 A2 A3 : Type} (Wf : A1 → A2 → A3 → va_W) (Lf : A1 → A2 → A3 → List (Nat × Value)) (I : A1 → A2 → A3 → Prop) (μ : A1 → A2 → A3 → Nat) (z1 : A1) (z2 : A2) (z3 : A3) (h0 : I z1 z2 z3) (hw : ws = Wf z1 z2 z3) (hl : lv = Lf z1 z2 z3) (step : ∀ (x1 : A1) (x2 : A2) (x3 : A3), I x1 x2 x3 → (∀ (y1 : A1) (y2 : A2) (y3 : A3), I y1 y2 y3 → μ y1 y2 y3 < μ x1 x2 x3 → V p l e R s m args below meth c nL D A cells slots Q (Wf y1 y2 y3) (Lf y1 y2 y3) pc st) → V p l e R s m args below meth c nL D A cells slots Q (Wf x1 x2 x3) (Lf x1 x2 x3) pc st) : V p l e R s m args below meth c nL D A cells slots Q ws lv pc st := by
  subst hw
  subst hl
  have key : ∀ (k : Nat) (x1 : A1) (x2 : A2) (x3 : A3), μ x1 x2 x3 < k → I x1 x2 x3 → V p l e R s m args below meth c nL D A cells slots Q (Wf x1 x2 x3) (Lf x1 x2 x3) pc st := by
    intro k
    induction k with
    | zero => intro x1 x2 x3 h _; exact absurd h (Nat.not_lt_zero _)
    | succ k ih => intro x1 x2 x3 h hI; exact step x1 x2 x3 hI (fun y1 y2 y3 hJ hm => ih y1 y2 y3 (Nat.lt_of_lt_of_le hm (Nat.le_of_lt_succ h)) hJ)
  exact key (μ z1 z2 z3 + 1) z1 z2 z3 (Nat.lt_succ_self _) h0
theorem V.ind4 (C : Cx p s m args meth c cc nL own D tys A) {A1 A2 A3 A4 : Type} (Wf : A1 → A2 → A3 → A4 → va_W) (Lf : A1 → A2 → A3 → A4 → List (Nat × Value)) (I : A1 → A2 → A3 → A4 → Prop) (μ : A1 → A2 → A3 → A4 → Nat) (z1 : A1) (z2 : A2) (z3 : A3) (z4 : A4) (h0 : I z1 z2 z3 z4) (hw : ws = Wf z1 z2 z3 z4) (hl : lv = Lf z1 z2 z3 z4) (step : ∀ (x1 : A1) (x2 : A2) (x3 : A3) (x4 : A4), I x1 x2 x3 x4 → (∀ (y1 : A1) (y2 : A2) (y3 : A3) (y4 : A4), I y1 y2 y3 y4 → μ y1 y2 y3 y4 < μ x1 x2 x3 x4 → V p l e R s m args below meth c nL D A cells slots Q (Wf y1 y2 y3 y4) (Lf y1 y2 y3 y4) pc st) → V p l e R s m args below meth c nL D A cells slots Q (Wf x1 x2 x3 x4) (Lf x1 x2 x3 x4) pc st) : V p l e R s m args below meth c nL D A cells slots Q ws lv pc st := by
  subst hw
  subst hl
  have key : ∀ (k : Nat) (x1 : A1) (x2 : A2) (x3 : A3) (x4 : A4), μ x1 x2 x3 x4 < k → I x1 x2 x3 x4 → V p l e R s m args below meth c nL D A cells slots Q (Wf x1 x2 x3 x4) (Lf x1 x2 x3 x4) pc st := by
    intro k
    induction k with
    | zero => intro x1 x2 x3 x4 h _; exact absurd h (Nat.not_lt_zero _)
    | succ k ih => intro x1 x2 x3 x4 h hI; exact step x1 x2 x3 x4 hI (fun y1 y2 y3 y4 hJ hm => ih y1 y2 y3 y4 (Nat.lt_of_lt_of_le hm (Nat.le_of_lt_succ h)) hJ)
  exact key (μ z1 z2 z3 z4 + 1) z1 z2 z3 z4 (Nat.lt_succ_self _) h0
theorem V.ind5 (C : Cx p s m args meth c cc nL own D tys A) {A1 A2 A3 A4 A5 : Type} (Wf : A1 → A2 → A3 → A4 → A5 → va_W) (Lf : A1 → A2 → A3 → A4 → A5 → List (Nat × Value)) (I : A1 → A2 → A3 → A4 → A5 → Prop) (μ : A1 → A2 → A3 → A4 → A5 → Nat) (z1 : A1) (z2 : A2) (z3 : A3) (z4 : A4) (z5 : A5) (h0 : I z1 z2 z3 z4 z5) (hw : ws = Wf z1 z2 z3 z4 z5) (hl : lv = Lf z1 z2 z3 z4 z5) (step : ∀ (x1 : A1) (x2 : A2) (x3 : A3) (x4 : A4) (x5 : A5), I x1 x2 x3 x4 x5 → (∀ (y1 : A1) (y2 : A2) (y3 : A3) (y4 : A4) (y5 : A5), I y1 y2 y3 y4 y5 → μ y1 y2 y3 y4 y5 < μ x1 x2 x3 x4 x5 → V p l e R s m args below meth c nL D A cells slots Q (Wf y1 y2 y3 y4 y5) (Lf y1 y2 y3 y4 y5) pc st) → V p l e R s m args below meth c nL D A cells slots Q (Wf x1 x2 x3 x4 x5) (Lf x1 x2 x3 x4 x5) pc st) : V p l e R s m args below meth c nL D A cells slots Q ws lv pc st := by
  subst hw
  subst hl
  have key : ∀ (k : Nat) (x1 : A1) (x2 : A2) (x3 : A3) (x4 : A4) (x5 : A5), μ x1 x2 x3 x4 x5 < k → I x1 x2 x3 x4 x5 → V p l e R s m args below meth c nL D A cells slots Q (Wf x1 x2 x3 x4 x5) (Lf x1 x2 x3 x4 x5) pc st := by
    intro k
    induction k with
    | zero => intro x1 x2 x3 x4 x5 h _; exact absurd h (Nat.not_lt_zero _)
    | succ k ih => intro x1 x2 x3 x4 x5 h hI; exact step x1 x2 x3 x4 x5 hI (fun y1 y2 y3 y4 y5 hJ hm => ih y1 y2 y3 y4 y5 (Nat.lt_of_lt_of_le hm (Nat.le_of_lt_succ h)) hJ)
  exact key (μ z1 z2 z3 z4 z5 + 1) z1 z2 z3 z4 z5 (Nat.lt_succ_self _) h0
theorem V.ind6 (C : Cx p s m args meth c cc nL own D tys A) {A1 A2 A3 A4 A5 A6 : Type} (Wf : A1 → A2 → A3 → A4 → A5 → A6 → va_W) (Lf : A1 → A2 → A3 → A4 → A5 → A6 → List (Nat × Value)) (I : A1 → A2 → A3 → A4 → A5 → A6 → Prop) (μ : A1 → A2 → A3 → A4 → A5 → A6 → Nat) (z1 : A1) (z2 : A2) (z3 : A3) (z4 : A4) (z5 : A5) (z6 : A6) (h0 : I z1 z2 z3 z4 z5 z6) (hw : ws = Wf z1 z2 z3 z4 z5 z6) (hl : lv = Lf z1 z2 z3 z4 z5 z6) (step : ∀ (x1 : A1) (x2 : A2) (x3 : A3) (x4 : A4) (x5 : A5) (x6 : A6), I x1 x2 x3 x4 x5 x6 → (∀ (y1 : A1) (y2 : A2) (y3 : A3) (y4 : A4) (y5 : A5) (y6 : A6), I y1 y2 y3 y4 y5 y6 → μ y1 y2 y3 y4 y5 y6 < μ x1 x2 x3 x4 x5 x6 → V p l e R s m args below meth c nL D A cells slots Q (Wf y1 y2 y3 y4 y5 y6) (Lf y1 y2 y3 y4 y5 y6) pc st) → V p l e R s m args below meth c nL D A cells slots Q (Wf x1 x2 x3 x4 x5 x6) (Lf x1 x2 x3 x4 x5 x6) pc st) : V p l e R s m args below meth c nL D A cells slots Q ws lv pc st := by
  subst hw
  subst hl
  have key : ∀ (k : Nat) (x1 : A1) (x2 : A2) (x3 : A3) (x4 : A4) (x5 : A5) (x6 : A6), μ x1 x2 x3 x4 x5 x6 < k → I x1 x2 x3 x4 x5 x6 → V p l e R s m args below meth c nL D A cells slots Q (Wf x1 x2 x3 x4 x5 x6) (Lf x1 x2 x3 x4 x5 x6) pc st := by
    intro k
    induction k with
    | zero => intro x1 x2 x3 x4 x5 x6 h _; exact absurd h (Nat.not_lt_zero _)
    | succ k ih => intro x1 x2 x3 x4 x5 x6 h hI; exact step x1 x2 x3 x4 x5 x6 hI (fun y1 y2 y3 y4 y5 y6 hJ hm => ih y1 y2 y3 y4 y5 y6 (Nat.lt_of_lt_of_le hm (Nat.le_of_lt_succ h)) hJ)
  exact key (μ z1 z2 z3 z4 z5 z6 + 1) z1 z2 z3 z4 z5 z6 (Nat.lt_succ_self _) h0
theorem V.ind7 (C : Cx p s m args meth c cc nL own D tys A) {A1 A2 A3 A4 A5 A6 A7 : Type} (Wf : A1 → A2 → A3 → A4 → A5 → A6 → A7 → va_W) (Lf : A1 → A2 → A3 → A4 → A5 → A6 → A7 → List (Nat × Value)) (I : A1 → A2 → A3 → A4 → A5 → A6 → A7 → Prop) (μ : A1 → A2 → A3 → A4 → A5 → A6 → A7 → Nat) (z1 : A1) (z2 : A2) (z3 : A3) (z4 : A4) (z5 : A5) (z6 : A6) (z7 : A7) (h0 : I z1 z2 z3 z4 z5 z6 z7) (hw : ws = Wf z1 z2 z3 z4 z5 z6 z7) (hl : lv = Lf z1 z2 z3 z4 z5 z6 z7) (step : ∀ (x1 : A1) (x2 : A2) (x3 : A3) (x4 : A4) (x5 : A5) (x6 : A6) (x7 : A7), I x1 x2 x3 x4 x5 x6 x7 → (∀ (y1 : A1) (y2 : A2) (y3 : A3) (y4 : A4) (y5 : A5) (y6 : A6) (y7 : A7), I y1 y2 y3 y4 y5 y6 y7 → μ y1 y2 y3 y4 y5 y6 y7 < μ x1 x2 x3 x4 x5 x6 x7 → V p l e R s m args below meth c nL D A cells slots Q (Wf y1 y2 y3 y4 y5 y6 y7) (Lf y1 y2 y3 y4 y5 y6 y7) pc st) → V p l e R s m args below meth c nL D A cells slots Q (Wf x1 x2 x3 x4 x5 x6 x7) (Lf x1 x2 x3 x4 x5 x6 x7) pc st) : V p l e R s m args below meth c nL D A cells slots Q ws lv pc st := by
  subst hw
  subst hl
  have key : ∀ (k : Nat) (x1 : A1) (x2 : A2) (x3 : A3) (x4 : A4) (x5 : A5) (x6 : A6) (x7 : A7), μ x1 x2 x3 x4 x5 x6 x7 < k → I x1 x2 x3 x4 x5 x6 x7 → V p l e R s m args below meth c nL D A cells slots Q (Wf x1 x2 x3 x4 x5 x6 x7) (Lf x1 x2 x3 x4 x5 x6 x7) pc st := by
    intro k
    induction k with
    | zero => intro x1 x2 x3 x4 x5 x6 x7 h _; exact absurd h (Nat.not_lt_zero _)
    | succ k ih => intro x1 x2 x3 x4 x5 x6 x7 h hI; exact step x1 x2 x3 x4 x5 x6 x7 hI (fun y1 y2 y3 y4 y5 y6 y7 hJ hm => ih y1 y2 y3 y4 y5 y6 y7 (Nat.lt_of_lt_of_le hm (Nat.le_of_lt_succ h)) hJ)
  exact key (μ z1 z2 z3 z4 z5 z6 z7 + 1) z1 z2 z3 z4 z5 z6 z7 (Nat.lt_succ_self _) h0
theorem V.ind8 (C : Cx p s m args meth c cc nL own D tys A) {A1 A2 A3 A4 A5 A6 A7 A8 : Type} (Wf : A1 → A2 → A3 → A4 → A5 → A6 → A7 → A8 → va_W) (Lf : A1 → A2 → A3 → A4 → A5 → A6 → A7 → A8 → List (Nat × Value)) (I : A1 → A2 → A3 → A4 → A5 → A6 → A7 → A8 → Prop) (μ : A1 → A2 → A3 → A4 → A5 → A6 → A7 → A8 → Nat) (z1 : A1) (z2 : A2) (z3 : A3) (z4 : A4) (z5 : A5) (z6 : A6) (z7 : A7) (z8 : A8) (h0 : I z1 z2 z3 z4 z5 z6 z7 z8) (hw : ws = Wf z1 z2 z3 z4 z5 z6 z7 z8) (hl : lv = Lf z1 z2 z3 z4 z5 z6 z7 z8) (step : ∀ (x1 : A1) (x2 : A2) (x3 : A3) (x4 : A4) (x5 : A5) (x6 : A6) (x7 : A7) (x8 : A8), I x1 x2 x3 x4 x5 x6 x7 x8 → (∀ (y1 : A1) (y2 : A2) (y3 : A3) (y4 : A4) (y5 : A5) (y6 : A6) (y7 : A7) (y8 : A8), I y1 y2 y3 y4 y5 y6 y7 y8 → μ y1 y2 y3 y4 y5 y6 y7 y8 < μ x1 x2 x3 x4 x5 x6 x7 x8 → V p l e R s m args below meth c nL D A cells slots Q (Wf y1 y2 y3 y4 y5 y6 y7 y8) (Lf y1 y2 y3 y4 y5 y6 y7 y8) pc st) → V p l e R s m args below meth c nL D A cells slots Q (Wf x1 x2 x3 x4 x5 x6 x7 x8) (Lf x1 x2 x3 x4 x5 x6 x7 x8) pc st) : V p l e R s m args below meth c nL D A cells slots Q ws lv pc st := by
  subst hw
  subst hl
  have key : ∀ (k : Nat) (x1 : A1) (x2 : A2) (x3 : A3) (x4 : A4) (x5 : A5) (x6 : A6) (x7 : A7) (x8 : A8), μ x1 x2 x3 x4 x5 x6 x7 x8 < k → I x1 x2 x3 x4 x5 x6 x7 x8 → V p l e R s m args below meth c nL D A cells slots Q (Wf x1 x2 x3 x4 x5 x6 x7 x8) (Lf x1 x2 x3 x4 x5 x6 x7 x8) pc st := by
    intro k
    induction k with
    | zero => intro x1 x2 x3 x4 x5 x6 x7 x8 h _; exact absurd h (Nat.not_lt_zero _)
    | succ k ih => intro x1 x2 x3 x4 x5 x6 x7 x8 h hI; exact step x1 x2 x3 x4 x5 x6 x7 x8 hI (fun y1 y2 y3 y4 y5 y6 y7 y8 hJ hm => ih y1 y2 y3 y4 y5 y6 y7 y8 (Nat.lt_of_lt_of_le hm (Nat.le_of_lt_succ h)) hJ)
  exact key (μ z1 z2 z3 z4 z5 z6 z7 z8 + 1) z1 z2 z3 z4 z5 z6 z7 z8 (Nat.lt_succ_self _) h0
theorem V.icmp_eq (C : Cx p s m args meth c cc nL own D tys A) {X Y : Int} {x y : Int32} {off : Int} {tgt : Nat} (ex : x.toInt = X) (ey : y.toInt = Y) (hdg : decode cc pc = .ok (.if_icmp .eq off, 3)) (ht : (pc : Int) + off = (tgt : Int)) (hn : pc + 3 = n) (kt : X = Y → V p l e R s m args below meth c nL D A cells slots Q ws lv tgt st) (kf : X ≠ Y → V p l e R s m args below meth c nL D A cells slots Q ws lv n st) : V p l e R s m args below meth c nL D A cells slots Q ws lv pc (.int y :: .int x :: st) := by
  subst hn
  intro H locs ls hP hD hS hl
  exact lv_icmp_eq C.1 C.2.1 hdg ht (fun c9 => kt (by rw [← ex, ← ey, c9]) H locs ls hP hD hS hl) (fun c9 => kf (fun q => c9 (Int32.toInt_inj.mp (by rw [ex, ey]; exact q))) H locs ls hP hD hS hl)
theorem V.icmpn_eq (C : Cx p s m args meth c cc nL own D tys A) {a b : Nat} {off : Int} {tgt : Nat} (ha : a < 2147483648) (hb : b < 2147483648) (hdg : decode cc pc = .ok (.if_icmp .eq off, 3)) (ht : (pc : Int) + off = (tgt : Int)) (hn : pc + 3 = n) (kt : a = b → V p l e R s m args below meth c nL D A cells slots Q ws lv tgt st) (kf : a ≠ b → V p l e R s m args below meth c nL D A cells slots Q ws lv n st) : V p l e R s m args below meth c nL D A cells slots Q ws lv pc (.int (nI b) :: .int (nI a) :: st) := by
  exact V.icmp_eq C (nT ha) (nT hb) hdg ht hn (fun c9 => kt (by omega)) (fun c9 => kf (by omega))
theorem V.if_eq (C : Cx p s m args meth c cc nL own D tys A) {X : Int} {x : Int32} {off : Int} {tgt : Nat} (ex : x.toInt = X) (hdg : decode cc pc = .ok (.ifCond .eq off, 3)) (ht : (pc : Int) + off = (tgt : Int)) (hn : pc + 3 = n) (kt : X = 0 → V p l e R s m args below meth c nL D A cells slots Q ws lv tgt st) (kf : X ≠ 0 → V p l e R s m args below meth c nL D A cells slots Q ws lv n st) : V p l e R s m args below meth c nL D A cells slots Q ws lv pc (.int x :: st) := by
  subst hn
  intro H locs ls hP hD hS hl
  have ey : (0 : Int32).toInt = 0 := by decide
  exact lv_if_eq C.1 C.2.1 hdg ht (fun c9 => kt (by rw [← ex, ← ey, c9]) H locs ls hP hD hS hl) (fun c9 => kf (fun q => c9 (Int32.toInt_inj.mp (by rw [ex, ey]; exact q))) H locs ls hP hD hS hl)
theorem V.ifn_eq (C : Cx p s m args meth c cc nL own D tys A) {a : Nat} {off : Int} {tgt : Nat} (ha : a < 2147483648) (hdg : decode cc pc = .ok (.ifCond .eq off, 3)) (ht : (pc : Int) + off = (tgt : Int)) (hn : pc + 3 = n) (kt : a = 0 → V p l e R s m args below meth c nL D A cells slots Q ws lv tgt st) (kf : a ≠ 0 → V p l e R s m args below meth c nL D A cells slots Q ws lv n st) : V p l e R s m args below meth c nL D A cells slots Q ws lv pc (.int (nI a) :: st) := by
  exact V.if_eq C (nT ha) hdg ht hn (fun c9 => kt (by omega)) (fun c9 => kf (by omega))
theorem V.icmp_ne (C : Cx p s m args meth c cc nL own D tys A) {X Y : Int} {x y : Int32} {off : Int} {tgt : Nat} (ex : x.toInt = X) (ey : y.toInt = Y) (hdg : decode cc pc = .ok (.if_icmp .ne off, 3)) (ht : (pc : Int) + off = (tgt : Int)) (hn : pc + 3 = n) (kt : X ≠ Y → V p l e R s m args below meth c nL D A cells slots Q ws lv tgt st) (kf : X = Y → V p l e R s m args below meth c nL D A cells slots Q ws lv n st) : V p l e R s m args below meth c nL D A cells slots Q ws lv pc (.int y :: .int x :: st) := by
  subst hn
  intro H locs ls hP hD hS hl
  exact lv_icmp_ne C.1 C.2.1 hdg ht (fun c9 => kt (fun q => c9 (Int32.toInt_inj.mp (by rw [ex, ey]; exact q))) H locs ls hP hD hS hl) (fun c9 => kf (by rw [← ex, ← ey, c9]) H locs ls hP hD hS hl)
theorem V.icmpn_ne (C : Cx p s m args meth c cc nL own D tys A) {a b : Nat} {off : Int} {tgt : Nat} (ha : a < 2147483648) (hb : b < 2147483648) (hdg : decode cc pc = .ok (.if_icmp .ne off, 3)) (ht : (pc : Int) + off = (tgt : Int)) (hn : pc + 3 = n) (kt : a ≠ b → V p l e R s m args below meth c nL D A cells slots Q ws lv tgt st) (kf : a = b → V p l e R s m args below meth c nL D A cells slots Q ws lv n st) : V p l e R s m args below meth c nL D A cells slots Q ws lv pc (.int (nI b) :: .int (nI a) :: st) := by
  exact V.icmp_ne C (nT ha) (nT hb) hdg ht hn (fun c9 => kt (by omega)) (fun c9 => kf (by omega))
theorem V.if_ne (C : Cx p s m args meth c cc nL own D tys A) {X : Int} {x : Int32} {off : Int} {tgt : Nat} (ex : x.toInt = X) (hdg : decode cc pc = .ok (.ifCond .ne off, 3)) (ht : (pc : Int) + off = (tgt : Int)) (hn : pc + 3 = n) (kt : X ≠ 0 → V p l e R s m args below meth c nL D A cells slots Q ws lv tgt st) (kf : X = 0 → V p l e R s m args below meth c nL D A cells slots Q ws lv n st) : V p l e R s m args below meth c nL D A cells slots Q ws lv pc (.int x :: st) := by
  subst hn
  intro H locs ls hP hD hS hl
  have ey : (0 : Int32).toInt = 0 := by decide
  exact lv_if_ne C.1 C.2.1 hdg ht (fun c9 => kt (fun q => c9 (Int32.toInt_inj.mp (by rw [ex, ey]; exact q))) H locs ls hP hD hS hl) (fun c9 => kf (by rw [← ex, ← ey, c9]) H locs ls hP hD hS hl)
theorem V.ifn_ne (C : Cx p s m args meth c cc nL own D tys A) {a : Nat} {off : Int} {tgt : Nat} (ha : a < 2147483648) (hdg : decode cc pc = .ok (.ifCond .ne off, 3)) (ht : (pc : Int) + off = (tgt : Int)) (hn : pc + 3 = n) (kt : a ≠ 0 → V p l e R s m args below meth c nL D A cells slots Q ws lv tgt st) (kf : a = 0 → V p l e R s m args below meth c nL D A cells slots Q ws lv n st) : V p l e R s m args below meth c nL D A cells slots Q ws lv pc (.int (nI a) :: st) := by
  exact V.if_ne C (nT ha) hdg ht hn (fun c9 => kt (by omega)) (fun c9 => kf (by omega))
theorem V.icmp_lt (C : Cx p s m args meth c cc nL own D tys A) {X Y : Int} {x y : Int32} {off : Int} {tgt : Nat} (ex : x.toInt = X) (ey : y.toInt = Y) (hdg : decode cc pc = .ok (.if_icmp .lt off, 3)) (ht : (pc : Int) + off = (tgt : Int)) (hn : pc + 3 = n) (kt : X < Y → V p l e R s m args below meth c nL D A cells slots Q ws lv tgt st) (kf : Y ≤ X → V p l e R s m args below meth c nL D A cells slots Q ws lv n st) : V p l e R s m args below meth c nL D A cells slots Q ws lv pc (.int y :: .int x :: st) := by
  subst hn
  intro H locs ls hP hD hS hl
  exact lv_icmp_lt C.1 C.2.1 hdg ht (fun c9 => kt (by rw [← ex, ← ey]; exact Int32.lt_iff_toInt_lt.mp c9) H locs ls hP hD hS hl) (fun c9 => kf (by rw [← ex, ← ey]; exact Int.not_lt.mp (fun q => c9 (Int32.lt_iff_toInt_lt.mpr q))) H locs ls hP hD hS hl)
theorem V.icmpn_lt (C : Cx p s m args meth c cc nL own D tys A) {a b : Nat} {off : Int} {tgt : Nat} (ha : a < 2147483648) (hb : b < 2147483648) (hdg : decode cc pc = .ok (.if_icmp .lt off, 3)) (ht : (pc : Int) + off = (tgt : Int)) (hn : pc + 3 = n) (kt : a < b → V p l e R s m args below meth c nL D A cells slots Q ws lv tgt st) (kf : b ≤ a → V p l e R s m args below meth c nL D A cells slots Q ws lv n st) : V p l e R s m args below meth c nL D A cells slots Q ws lv pc (.int (nI b) :: .int (nI a) :: st) := by
  exact V.icmp_lt C (nT ha) (nT hb) hdg ht hn (fun c9 => kt (by omega)) (fun c9 => kf (by omega))
theorem V.if_lt (C : Cx p s m args meth c cc nL own D tys A) {X : Int} {x : Int32} {off : Int} {tgt : Nat} (ex : x.toInt = X) (hdg : decode cc pc = .ok (.ifCond .lt off, 3)) (ht : (pc : Int) + off = (tgt : Int)) (hn : pc + 3 = n) (kt : X < 0 → V p l e R s m args below meth c nL D A cells slots Q ws lv tgt st) (kf : 0 ≤ X → V p l e R s m args below meth c nL D A cells slots Q ws lv n st) : V p l e R s m args below meth c nL D A cells slots Q ws lv pc (.int x :: st) := by
  subst hn
  intro H locs ls hP hD hS hl
  have ey : (0 : Int32).toInt = 0 := by decide
  exact lv_if_lt C.1 C.2.1 hdg ht (fun c9 => kt (by rw [← ex, ← ey]; exact Int32.lt_iff_toInt_lt.mp c9) H locs ls hP hD hS hl) (fun c9 => kf (by rw [← ex, ← ey]; exact Int.not_lt.mp (fun q => c9 (Int32.lt_iff_toInt_lt.mpr q))) H locs ls hP hD hS hl)
theorem V.ifn_lt (C : Cx p s m args meth c cc nL own D tys A) {a : Nat} {off : Int} {tgt : Nat} (ha : a < 2147483648) (hdg : decode cc pc = .ok (.ifCond .lt off, 3)) (ht : (pc : Int) + off = (tgt : Int)) (hn : pc + 3 = n) (kt : a < 0 → V p l e R s m args below meth c nL D A cells slots Q ws lv tgt st) (kf : 0 ≤ a → V p l e R s m args below meth c nL D A cells slots Q ws lv n st) : V p l e R s m args below meth c nL D A cells slots Q ws lv pc (.int (nI a) :: st) := by
  exact V.if_lt C (nT ha) hdg ht hn (fun c9 => kt (by omega)) (fun c9 => kf (by omega))
theorem V.icmp_ge (C : Cx p s m args meth c cc nL own D tys A) {X Y : Int} {x y : Int32} {off : Int} {tgt : Nat} (ex : x.toInt = X) (ey : y.toInt = Y) (hdg : decode cc pc = .ok (.if_icmp .ge off, 3)) (ht : (pc : Int) + off = (tgt : Int)) (hn : pc + 3 = n) (kt : Y ≤ X → V p l e R s m args below meth c nL D A cells slots Q ws lv tgt st) (kf : X < Y → V p l e R s m args below meth c nL D A cells slots Q ws lv n st) : V p l e R s m args below meth c nL D A cells slots Q ws lv pc (.int y :: .int x :: st) := by
  subst hn
  intro H locs ls hP hD hS hl
  exact lv_icmp_ge C.1 C.2.1 hdg ht (fun c9 => kt (by rw [← ex, ← ey]; exact Int32.le_iff_toInt_le.mp c9) H locs ls hP hD hS hl) (fun c9 => kf (by rw [← ex, ← ey]; exact Int.not_le.mp (fun q => c9 (Int32.le_iff_toInt_le.mpr q))) H locs ls hP hD hS hl)
theorem V.icmpn_ge (C : Cx p s m args meth c cc nL own D tys A) {a b : Nat} {off : Int} {tgt : Nat} (ha : a < 2147483648) (hb : b < 2147483648) (hdg : decode cc pc = .ok (.if_icmp .ge off, 3)) (ht : (pc : Int) + off = (tgt : Int)) (hn : pc + 3 = n) (kt : b ≤ a → V p l e R s m args below meth c nL D A cells slots Q ws lv tgt st) (kf : a < b → V p l e R s m args below meth c nL D A cells slots Q ws lv n st) : V p l e R s m args below meth c nL D A cells slots Q ws lv pc (.int (nI b) :: .int (nI a) :: st) := by
  exact V.icmp_ge C (nT ha) (nT hb) hdg ht hn (fun c9 => kt (by omega)) (fun c9 => kf (by omega))
theorem V.if_ge (C : Cx p s m args meth c cc nL own D tys A) {X : Int} {x : Int32} {off : Int} {tgt : Nat} (ex : x.toInt = X) (hdg : decode cc pc = .ok (.ifCond .ge off, 3)) (ht : (pc : Int) + off = (tgt : Int)) (hn : pc + 3 = n) (kt : 0 ≤ X → V p l e R s m args below meth c nL D A cells slots Q ws lv tgt st) (kf : X < 0 → V p l e R s m args below meth c nL D A cells slots Q ws lv n st) : V p l e R s m args below meth c nL D A cells slots Q ws lv pc (.int x :: st) := by
  subst hn
  intro H locs ls hP hD hS hl
  have ey : (0 : Int32).toInt = 0 := by decide
  exact lv_if_ge C.1 C.2.1 hdg ht (fun c9 => kt (by rw [← ex, ← ey]; exact Int32.le_iff_toInt_le.mp c9) H locs ls hP hD hS hl) (fun c9 => kf (by rw [← ex, ← ey]; exact Int.not_le.mp (fun q => c9 (Int32.le_iff_toInt_le.mpr q))) H locs ls hP hD hS hl)
theorem V.ifn_ge (C : Cx p s m args meth c cc nL own D tys A) {a : Nat} {off : Int} {tgt : Nat} (ha : a < 2147483648) (hdg : decode cc pc = .ok (.ifCond .ge off, 3)) (ht : (pc : Int) + off = (tgt : Int)) (hn : pc + 3 = n) (kt : 0 ≤ a → V p l e R s m args below meth c nL D A cells slots Q ws lv tgt st) (kf : a < 0 → V p l e R s m args below meth c nL D A cells slots Q ws lv n st) : V p l e R s m args below meth c nL D A cells slots Q ws lv pc (.int (nI a) :: st) := by
  exact V.if_ge C (nT ha) hdg ht hn (fun c9 => kt (by omega)) (fun c9 => kf (by omega))
theorem V.icmp_gt (C : Cx p s m args meth c cc nL own D tys A) {X Y : Int} {x y : Int32} {off : Int} {tgt : Nat} (ex : x.toInt = X) (ey : y.toInt = Y) (hdg : decode cc pc = .ok (.if_icmp .gt off, 3)) (ht : (pc : Int) + off = (tgt : Int)) (hn : pc + 3 = n) (kt : Y < X → V p l e R s m args below meth c nL D A cells slots Q ws lv tgt st) (kf : X ≤ Y → V p l e R s m args below meth c nL D A cells slots Q ws lv n st) : V p l e R s m args below meth c nL D A cells slots Q ws lv pc (.int y :: .int x :: st) := by
  subst hn
  intro H locs ls hP hD hS hl
  exact lv_icmp_gt C.1 C.2.1 hdg ht (fun c9 => kt (by rw [← ex, ← ey]; exact Int32.lt_iff_toInt_lt.mp c9) H locs ls hP hD hS hl) (fun c9 => kf (by rw [← ex, ← ey]; exact Int.not_lt.mp (fun q => c9 (Int32.lt_iff_toInt_lt.mpr q))) H locs ls hP hD hS hl)
theorem V.icmpn_gt (C : Cx p s m args meth c cc nL own D tys A) {a b : Nat} {off : Int} {tgt : Nat} (ha : a < 2147483648) (hb : b < 2147483648) (hdg : decode cc pc = .ok (.if_icmp .gt off, 3)) (ht : (pc : Int) + off = (tgt : Int)) (hn : pc + 3 = n) (kt : b < a → V p l e R s m args below meth c nL D A cells slots Q ws lv tgt st) (kf : a ≤ b → V p l e R s m args below meth c nL D A cells slots Q ws lv n st) : V p l e R s m args below meth c nL D A cells slots Q ws lv pc (.int (nI b) :: .int (nI a) :: st) := by
  exact V.icmp_gt C (nT ha) (nT hb) hdg ht hn (fun c9 => kt (by omega)) (fun c9 => kf (by omega))
theorem V.if_gt (C : Cx p s m args meth c cc nL own D tys A) {X : Int} {x : Int32} {off : Int} {tgt : Nat} (ex : x.toInt = X) (hdg : decode cc pc = .ok (.ifCond .gt off, 3)) (ht : (pc : Int) + off = (tgt : Int)) (hn : pc + 3 = n) (kt : 0 < X → V p l e R s m args below meth c nL D A cells slots Q ws lv tgt st) (kf : X ≤ 0 → V p l e R s m args below meth c nL D A cells slots Q ws lv n st) : V p l e R s m args below meth c nL D A cells slots Q ws lv pc (.int x :: st) := by
  subst hn
  intro H locs ls hP hD hS hl
  have ey : (0 : Int32).toInt = 0 := by decide
  exact lv_if_gt C.1 C.2.1 hdg ht (fun c9 => kt (by rw [← ex, ← ey]; exact Int32.lt_iff_toInt_lt.mp c9) H locs ls hP hD hS hl) (fun c9 => kf (by rw [← ex, ← ey]; exact Int.not_lt.mp (fun q => c9 (Int32.lt_iff_toInt_lt.mpr q))) H locs ls hP hD hS hl)
theorem V.ifn_gt (C : Cx p s m args meth c cc nL own D tys A) {a : Nat} {off : Int} {tgt : Nat} (ha : a < 2147483648) (hdg : decode cc pc = .ok (.ifCond .gt off, 3)) (ht : (pc : Int) + off = (tgt : Int)) (hn : pc + 3 = n) (kt : 0 < a → V p l e R s m args below meth c nL D A cells slots Q ws lv tgt st) (kf : a ≤ 0 → V p l e R s m args below meth c nL D A cells slots Q ws lv n st) : V p l e R s m args below meth c nL D A cells slots Q ws lv pc (.int (nI a) :: st) := by
  exact V.if_gt C (nT ha) hdg ht hn (fun c9 => kt (by omega)) (fun c9 => kf (by omega))
theorem V.icmp_le (C : Cx p s m args meth c cc nL own D tys A) {X Y : Int} {x y : Int32} {off : Int} {tgt : Nat} (ex : x.toInt = X) (ey : y.toInt = Y) (hdg : decode cc pc = .ok (.if_icmp .le off, 3)) (ht : (pc : Int) + off = (tgt : Int)) (hn : pc + 3 = n) (kt : X ≤ Y → V p l e R s m args below meth c nL D A cells slots Q ws lv tgt st) (kf : Y < X → V p l e R s m args below meth c nL D A cells slots Q ws lv n st) : V p l e R s m args below meth c nL D A cells slots Q ws lv pc (.int y :: .int x :: st) := by
  subst hn
  intro H locs ls hP hD hS hl
  exact lv_icmp_le C.1 C.2.1 hdg ht (fun c9 => kt (by rw [← ex, ← ey]; exact Int32.le_iff_toInt_le.mp c9) H locs ls hP hD hS hl) (fun c9 => kf (by rw [← ex, ← ey]; exact Int.not_le.mp (fun q => c9 (Int32.le_iff_toInt_le.mpr q))) H locs ls hP hD hS hl)
theorem V.icmpn_le (C : Cx p s m args meth c cc nL own D tys A) {a b : Nat} {off : Int} {tgt : Nat} (ha : a < 2147483648) (hb : b < 2147483648) (hdg : decode cc pc = .ok (.if_icmp .le off, 3)) (ht : (pc : Int) + off = (tgt : Int)) (hn : pc + 3 = n) (kt : a ≤ b → V p l e R s m args below meth c nL D A cells slots Q ws lv tgt st) (kf : b < a → V p l e R s m args below meth c nL D A cells slots Q ws lv n st) : V p l e R s m args below meth c nL D A cells slots Q ws lv pc (.int (nI b) :: .int (nI a) :: st) := by
  exact V.icmp_le C (nT ha) (nT hb) hdg ht hn (fun c9 => kt (by omega)) (fun c9 => kf (by omega))
theorem V.if_le (C : Cx p s m args meth c cc nL own D tys A) {X : Int} {x : Int32} {off : Int} {tgt : Nat} (ex : x.toInt = X) (hdg : decode cc pc = .ok (.ifCond .le off, 3)) (ht : (pc : Int) + off = (tgt : Int)) (hn : pc + 3 = n) (kt : X ≤ 0 → V p l e R s m args below meth c nL D A cells slots Q ws lv tgt st) (kf : 0 < X → V p l e R s m args below meth c nL D A cells slots Q ws lv n st) : V p l e R s m args below meth c nL D A cells slots Q ws lv pc (.int x :: st) := by
  subst hn
  intro H locs ls hP hD hS hl
  have ey : (0 : Int32).toInt = 0 := by decide
  exact lv_if_le C.1 C.2.1 hdg ht (fun c9 => kt (by rw [← ex, ← ey]; exact Int32.le_iff_toInt_le.mp c9) H locs ls hP hD hS hl) (fun c9 => kf (by rw [← ex, ← ey]; exact Int.not_le.mp (fun q => c9 (Int32.le_iff_toInt_le.mpr q))) H locs ls hP hD hS hl)
theorem V.ifn_le (C : Cx p s m args meth c cc nL own D tys A) {a : Nat} {off : Int} {tgt : Nat} (ha : a < 2147483648) (hdg : decode cc pc = .ok (.ifCond .le off, 3)) (ht : (pc : Int) + off = (tgt : Int)) (hn : pc + 3 = n) (kt : a ≤ 0 → V p l e R s m args below meth c nL D A cells slots Q ws lv tgt st) (kf : 0 < a → V p l e R s m args below meth c nL D A cells slots Q ws lv n st) : V p l e R s m args below meth c nL D A cells slots Q ws lv pc (.int (nI a) :: st) := by
  exact V.if_le C (nT ha) hdg ht hn (fun c9 => kt (by omega)) (fun c9 => kf (by omega))
theorem V.ifb_eq (C : Cx p s m args meth c cc nL own D tys A) {P : Prop} {off : Int} {tgt : Nat} (hdg : decode cc pc = .ok (.ifCond .eq off, 3)) (ht : (pc : Int) + off = (tgt : Int)) (hn : pc + 3 = n) (kt : ¬ P → V p l e R s m args below meth c nL D A cells slots Q ws lv tgt st) (kf : P → V p l e R s m args below meth c nL D A cells slots Q ws lv n st) : V p l e R s m args below meth c nL D A cells slots Q ws lv pc (.int (bI P) :: st) := by
  subst hn
  intro H locs ls hP hD hS hl
  exact lv_if_eq C.1 C.2.1 hdg ht (fun c9 => kt (bI_z.mp c9) H locs ls hP hD hS hl) (fun c9 => kf (Classical.byContradiction fun q => c9 (bI_f q)) H locs ls hP hD hS hl)
theorem V.ifb_ne (C : Cx p s m args meth c cc nL own D tys A) {P : Prop} {off : Int} {tgt : Nat} (hdg : decode cc pc = .ok (.ifCond .ne off, 3)) (ht : (pc : Int) + off = (tgt : Int)) (hn : pc + 3 = n) (kt : P → V p l e R s m args below meth c nL D A cells slots Q ws lv tgt st) (kf : ¬ P → V p l e R s m args below meth c nL D A cells slots Q ws lv n st) : V p l e R s m args below meth c nL D A cells slots Q ws lv pc (.int (bI P) :: st) := by
  subst hn
  intro H locs ls hP hD hS hl
  exact lv_if_ne C.1 C.2.1 hdg ht (fun c9 => kt (Classical.byContradiction fun q => c9 (bI_f q)) H locs ls hP hD hS hl) (fun c9 => kf (bI_z.mp c9) H locs ls hP hD hS hl)
theorem V.goto (C : Cx p s m args meth c cc nL own D tys A) {off : Int} (hdg : decode cc pc = .ok (.goto off, 3)) (ht : (pc : Int) + off = (n : Int)) (k : V p l e R s m args below meth c nL D A cells slots Q ws lv n st) : V p l e R s m args below meth c nL D A cells slots Q ws lv pc st := by
  intro H locs ls hP hD hS hl
  exact lv_goto C.1 C.2.1 hdg ht (k H locs ls hP hD hS hl)
theorem V.tableIn (C : Cx p s m args meth c cc nL own D tys A) {dflt lo hi off X : Int} {offs : Array Int} {len : Nat} {x : Int32} (ex : x.toInt = X) (hdg : decode cc pc = .ok (.tableswitch dflt lo hi offs, len)) (h1 : ¬ X < lo) (h2 : ¬ hi < X) (ho : offs[(X - lo).toNat]? = some off) (ht : (pc : Int) + off = (n : Int)) (k : V p l e R s m args below meth c nL D A cells slots Q ws lv n st) : V p l e R s m args below meth c nL D A cells slots Q ws lv pc (.int x :: st) := by
  subst ex
  intro H locs ls hP hD hS hl
  exact lv_tableIn C.1 C.2.1 hdg h1 h2 ho ht (k H locs ls hP hD hS hl)
theorem V.tableOut (C : Cx p s m args meth c cc nL own D tys A) {dflt lo hi X : Int} {offs : Array Int} {len : Nat} {x : Int32} (ex : x.toInt = X) (hdg : decode cc pc = .ok (.tableswitch dflt lo hi offs, len)) (h : X < lo ∨ hi < X) (ht : (pc : Int) + dflt = (n : Int)) (k : V p l e R s m args below meth c nL D A cells slots Q ws lv n st) : V p l e R s m args below meth c nL D A cells slots Q ws lv pc (.int x :: st) := by
  subst ex
  intro H locs ls hP hD hS hl
  exact lv_tableOut C.1 C.2.1 hdg h ht (k H locs ls hP hD hS hl)
/-- a class's rows: its words are among wT, types, names apart -/
def clOk (ci : Nat) (C : String) (T : u_T) (N : Nat) (ty : Nat → FieldType) : Prop := vwCl[ci]? = some (C, T, N) ∧ (∀ w ∈ u_ws C T N, w ∈ wT) ∧ (∀ k, k < N → parseFieldDescriptor (T k).2.2.1 = some (ty k)) ∧ ∀ a, a < N → ∀ b, b < N → a ≠ b → (T a).2.1 ≠ (T b).2.1
theorem V.get (C : Cx p s m args meth c cc nL own D tys A) {ci N : Nat} {Cn : String} {T : u_T} {ty : Nat → FieldType} {a idx q0 k0 : Nat} {fs : List Value} {v : Value} (hc : clOk ci Cn T N ty) (he : ws[q0]? = some (a, .inr (ci, fs))) (hk : k0 < N) (hT : (T k0).1 = Cn) (hlink : .fieldLink own idx Cn (T k0).2.1 (T k0).2.2.1 ∈ wT) (hv : fs[k0]? = some v) (hdg : decode cc pc = .ok (.getfield idx, 3)) (hn : pc + 3 = n) (k : V p l e R s m args below meth c nL D A cells slots Q ws lv n (v :: st)) : V p l e R s m args below meth c nL D A cells slots Q ws lv pc (.ref a :: st) := by
  subst hn
  obtain ⟨h1, h2, h3, h4⟩ := hc
  intro H locs ls hP hD hS hl
  exact va_get C.1 C.2.1 C.2.2.2.2.1 h2 C.2.2.2.1 C.2.2.2.2.2.1 hP q0 he h1 k0 hk (C.2.2.2.2.1 _ hlink) (fun x9 h9 => by rw [hT] at h9; exact h9) hv hdg (k H locs ls hP hD hS hl)
theorem V.put (C : Cx p s m args meth c cc nL own D tys A) {ci N : Nat} {Cn : String} {T : u_T} {ty : Nat → FieldType} {a idx q0 k0 : Nat} {fs : List Value} {v : Value} (hc : clOk ci Cn T N ty) (he : ws[q0]? = some (a, .inr (ci, fs))) (hk : k0 < N) (hT : (T k0).1 = Cn) (hfin : (T k0).2.2.2 = false) (hlink : .fieldLink own idx Cn (T k0).2.1 (T k0).2.2.1 ∈ wT) (hnar : narrow (ty k0) v = v) (hfit : fits (ty k0) v = true) (hlen : k0 < fs.length) (hw : ws.set q0 (a, .inr (ci, fs.set k0 v)) = ws') (hdg : decode cc pc = .ok (.putfield idx, 3)) (hn : pc + 3 = n) (k : V p l e R s m args below meth c nL D A cells slots Q ws' lv n st) : V p l e R s m args below meth c nL D A cells slots Q ws lv pc (v :: .ref a :: st) := by
  subst hn
  subst hw
  obtain ⟨h1, h2, h3, h4⟩ := hc
  intro H locs ls hP hD hS hl
  exact va_put C.1 C.2.1 C.2.2.2.2.1 h2 ty h3 h4 C.2.2.2.1 C.2.2.2.2.2.1 hP hD hS q0 he h1 k0 hk (C.2.2.2.2.1 _ hlink) (fun x9 h9 => by rw [hT] at h9; exact h9) hfin (h3 k0 hk) hnar hfit hlen hdg (fun H1 locs1 hP1 hD1 hS1 => k H1 locs1 ls hP1 hD1 hS1 hl)
theorem V.putF (C : Cx p s m args meth c cc nL own D tys A) {ci N : Nat} {Cn : String} {T : u_T} {ty : Nat → FieldType} {a idx q0 k0 : Nat} {fs : List Value} {v : Value} (hin : meth.name = "<init>") (ho : Cn = own) (hc : clOk ci Cn T N ty) (he : ws[q0]? = some (a, .inr (ci, fs))) (hk : k0 < N) (hT : (T k0).1 = Cn) (hfin : (T k0).2.2.2 = true) (hlink : .fieldLink own idx Cn (T k0).2.1 (T k0).2.2.1 ∈ wT) (hnar : narrow (ty k0) v = v) (hfit : fits (ty k0) v = true) (hlen : k0 < fs.length) (hw : ws.set q0 (a, .inr (ci, fs.set k0 v)) = ws') (hdg : decode cc pc = .ok (.putfield idx, 3)) (hn : pc + 3 = n) (k : V p l e R s m args below meth c nL D A cells slots Q ws' lv n st) : V p l e R s m args below meth c nL D A cells slots Q ws lv pc (v :: .ref a :: st) := by
  subst hn
  subst hw
  obtain ⟨h1, h2, h3, h4⟩ := hc
  intro H locs ls hP hD hS hl
  exact va_putF C.1 C.2.1 C.2.2.2.2.1 h2 ty h3 h4 C.2.2.2.1 C.2.2.2.2.2.1 hP hD hS q0 he h1 k0 hk (C.2.2.2.2.1 _ hlink) (fun x9 h9 => by rw [hT] at h9; exact h9) hfin hin (hT.trans ho) (h3 k0 hk) hnar hfit hlen hdg (fun H1 locs1 hP1 hD1 hS1 => k H1 locs1 ls hP1 hD1 hS1 hl)
theorem V.iaload_n (C : Cx p s m args meth c cc nL own D tys A) {a q0 t0 N i : Nat} {cA : ClassId} {f : Nat → Nat} (he : ws[q0]? = some (a, .inl (cA, N, .inl (fun j => nI (f j))))) (ht : tys.1[t0]? = some (cA, .int)) (hi : i < N) (hN : N < 2147483648) (hdg : decode cc pc = .ok (.iaload, 1)) (hn : pc + 1 = n) (k : V p l e R s m args below meth c nL D A cells slots Q ws lv n (.int (nI (f i)) :: st)) : V p l e R s m args below meth c nL D A cells slots Q ws lv pc (.int (nI i) :: .ref a :: st) := by
  subst hn
  intro H locs ls hP hD hS hl
  refine va_iald C.1 C.2.1 C.2.2.2.2.2.1 hP q0 t0 he ht (vp_in_nI hi (by simpa using hN)) hdg ?_
  rw [nI_clamp (show i < 2 ^ 31 by simp; omega)]
  exact k H locs ls hP hD hS hl
theorem V.iaload_z (C : Cx p s m args meth c cc nL own D tys A) {a q0 t0 N i : Nat} {cA : ClassId} {f : Nat → Int} (he : ws[q0]? = some (a, .inl (cA, N, .inl (fun j => iI (f j))))) (ht : tys.1[t0]? = some (cA, .int)) (hi : i < N) (hN : N < 2147483648) (hdg : decode cc pc = .ok (.iaload, 1)) (hn : pc + 1 = n) (k : V p l e R s m args below meth c nL D A cells slots Q ws lv n (.int (iI (f i)) :: st)) : V p l e R s m args below meth c nL D A cells slots Q ws lv pc (.int (nI i) :: .ref a :: st) := by
  subst hn
  intro H locs ls hP hD hS hl
  refine va_iald C.1 C.2.1 C.2.2.2.2.2.1 hP q0 t0 he ht (vp_in_nI hi (by simpa using hN)) hdg ?_
  rw [nI_clamp (show i < 2 ^ 31 by simp; omega)]
  exact k H locs ls hP hD hS hl
theorem V.caload_n (C : Cx p s m args meth c cc nL own D tys A) {a q0 t0 N i : Nat} {cA : ClassId} {f : Nat → Nat} (he : ws[q0]? = some (a, .inl (cA, N, .inl (fun j => nI (f j))))) (ht : tys.1[t0]? = some (cA, .char)) (hi : i < N) (hN : N < 2147483648) (hdg : decode cc pc = .ok (.caload, 1)) (hn : pc + 1 = n) (k : V p l e R s m args below meth c nL D A cells slots Q ws lv n (.int (nI (f i)) :: st)) : V p l e R s m args below meth c nL D A cells slots Q ws lv pc (.int (nI i) :: .ref a :: st) := by
  subst hn
  intro H locs ls hP hD hS hl
  refine va_cald C.1 C.2.1 C.2.2.2.2.2.1 hP q0 t0 he ht (vp_in_nI hi (by simpa using hN)) hdg ?_
  rw [nI_clamp (show i < 2 ^ 31 by simp; omega)]
  exact k H locs ls hP hD hS hl
theorem V.iastore_n (C : Cx p s m args meth c cc nL own D tys A) {a q0 t0 N i : Nat} {cA : ClassId} {f : Nat → Nat} {x : Nat} (he : ws[q0]? = some (a, .inl (cA, N, .inl (fun j => nI (f j))))) (ht : tys.1[t0]? = some (cA, .int)) (hi : i < N) (hN : N < 2147483648) (hw : ws.set q0 (a, .inl (cA, N, .inl (fun j => nI (updN f i x j)))) = ws') (hdg : decode cc pc = .ok (.iastore, 1)) (hn : pc + 1 = n) (k : V p l e R s m args below meth c nL D A cells slots Q ws' lv n st) : V p l e R s m args below meth c nL D A cells slots Q ws lv pc (.int (nI x) :: .int (nI i) :: .ref a :: st) := by
  subst hn
  subst hw
  intro H locs ls hP hD hS hl
  refine va_iast C.1 C.2.1 C.2.2.2.2.2.1 hP hD hS q0 t0 he ht (vp_in_nI hi (by simpa using hN)) hdg (fun H1 locs1 hP1 hD1 hS1 => ?_)
  rw [nI_clamp (show i < 2 ^ 31 by simp; omega), upd_nI] at hP1 hD1
  exact k H1 locs1 ls hP1 hD1 hS1 hl
theorem V.iastore_z (C : Cx p s m args meth c cc nL own D tys A) {a q0 t0 N i : Nat} {cA : ClassId} {f : Nat → Int} {x : Int} (he : ws[q0]? = some (a, .inl (cA, N, .inl (fun j => iI (f j))))) (ht : tys.1[t0]? = some (cA, .int)) (hi : i < N) (hN : N < 2147483648) (hw : ws.set q0 (a, .inl (cA, N, .inl (fun j => iI (updZ f i x j)))) = ws') (hdg : decode cc pc = .ok (.iastore, 1)) (hn : pc + 1 = n) (k : V p l e R s m args below meth c nL D A cells slots Q ws' lv n st) : V p l e R s m args below meth c nL D A cells slots Q ws lv pc (.int (iI x) :: .int (nI i) :: .ref a :: st) := by
  subst hn
  subst hw
  intro H locs ls hP hD hS hl
  refine va_iast C.1 C.2.1 C.2.2.2.2.2.1 hP hD hS q0 t0 he ht (vp_in_nI hi (by simpa using hN)) hdg (fun H1 locs1 hP1 hD1 hS1 => ?_)
  rw [nI_clamp (show i < 2 ^ 31 by simp; omega), upd_iI] at hP1 hD1
  exact k H1 locs1 ls hP1 hD1 hS1 hl
theorem V.castore_n (C : Cx p s m args meth c cc nL own D tys A) {a q0 t0 N i : Nat} {cA : ClassId} {f : Nat → Nat} {x : Nat} (he : ws[q0]? = some (a, .inl (cA, N, .inl (fun j => nI (f j))))) (ht : tys.1[t0]? = some (cA, .char)) (hi : i < N) (hN : N < 2147483648) (hx : vp_nar .char (nI x) = nI x) (hw : ws.set q0 (a, .inl (cA, N, .inl (fun j => nI (updN f i x j)))) = ws') (hdg : decode cc pc = .ok (.castore, 1)) (hn : pc + 1 = n) (k : V p l e R s m args below meth c nL D A cells slots Q ws' lv n st) : V p l e R s m args below meth c nL D A cells slots Q ws lv pc (.int (nI x) :: .int (nI i) :: .ref a :: st) := by
  subst hn
  subst hw
  intro H locs ls hP hD hS hl
  refine va_cast C.1 C.2.1 C.2.2.2.2.2.1 hP hD hS q0 t0 he ht (vp_in_nI hi (by simpa using hN)) hdg (fun H1 locs1 hP1 hD1 hS1 => ?_)
  rw [nI_clamp (show i < 2 ^ 31 by simp; omega), hx, upd_nI] at hP1 hD1
  exact k H1 locs1 ls hP1 hD1 hS1 hl
theorem V.max_n (C : Cx p s m args meth c cc nL own D tys A) {a b idx : Nat} (hw : .methodLink own idx Lib.Math.max.name ∈ wT ∧ .static Lib.Math.max.name ∈ wT ∧ .initialized "java/lang/Math" ∈ wT ∧ .code Lib.Math.max.name Lib.Math.max.code 2 (some .int) ∈ wT) (hfr : 1 ≤ R.frames) (hlo : (st.map fun v => v.category).sum + 13 ≤ R.locals) (hcs : cells ≤ R.cells ∧ slots ≤ R.slots) (ha : a < 2147483648) (hb : b < 2147483648) (hdg : decode cc pc = .ok (.invokestatic idx, 3)) (hn : pc + 3 = n) (k : V p l e R s m args below meth c nL D A cells slots Q ws lv n (.int (nI (max a b)) :: st)) : V p l e R s m args below meth c nL D A cells slots Q ws lv pc (.int (nI b) :: .int (nI a) :: st) := by
  subst hn
  intro H locs ls hP hD hS hl
  refine va_mmax C.1 C.2.1 (C.2.2.1.trans hl.1.symm) C.2.2.2.1 (C.2.2.2.2.1 _ hw.1) (C.2.2.2.2.1 _ hw.2.1) (C.2.2.2.2.1 _ hw.2.2.1) (C.2.2.2.2.1 _ hw.2.2.2) hfr hlo hcs.1 hcs.2 hdg ?_
  rw [show (if nI a < nI b then nI b else nI a) = nI (max a b) from ?_]
  · exact k H locs ls hP hD hS hl
  · by_cases h : a < b
    · rw [if_pos (nI_lt h (by simpa using hb)), Nat.max_eq_right (Nat.le_of_lt h)]
    · rw [if_neg (nI_nlt (Nat.not_lt.mp h) (by simpa using ha)), Nat.max_eq_left (Nat.not_lt.mp h)]
theorem V.max_z (C : Cx p s m args meth c cc nL own D tys A) {X Y : Int} {x y : Int32} {idx : Nat} (hw : .methodLink own idx Lib.Math.max.name ∈ wT ∧ .static Lib.Math.max.name ∈ wT ∧ .initialized "java/lang/Math" ∈ wT ∧ .code Lib.Math.max.name Lib.Math.max.code 2 (some .int) ∈ wT) (hfr : 1 ≤ R.frames) (hlo : (st.map fun v => v.category).sum + 13 ≤ R.locals) (hcs : cells ≤ R.cells ∧ slots ≤ R.slots) (ex : x = iI X) (ey : y = iI Y) (hX : -2147483648 ≤ X ∧ X < 2147483648) (hY : -2147483648 ≤ Y ∧ Y < 2147483648) (hdg : decode cc pc = .ok (.invokestatic idx, 3)) (hn : pc + 3 = n) (k : V p l e R s m args below meth c nL D A cells slots Q ws lv n (.int (iI (max X Y)) :: st)) : V p l e R s m args below meth c nL D A cells slots Q ws lv pc (.int y :: .int x :: st) := by
  subst hn
  subst ex
  subst ey
  intro H locs ls hP hD hS hl
  refine va_mmax C.1 C.2.1 (C.2.2.1.trans hl.1.symm) C.2.2.2.1 (C.2.2.2.2.1 _ hw.1) (C.2.2.2.2.1 _ hw.2.1) (C.2.2.2.2.1 _ hw.2.2.1) (C.2.2.2.2.1 _ hw.2.2.2) hfr hlo hcs.1 hcs.2 hdg ?_
  rw [show (if iI X < iI Y then iI Y else iI X) = iI (max X Y) from ?_]
  · exact k H locs ls hP hD hS hl
  · have h0 : iI X < iI Y ↔ X < Y := by rw [Int32.lt_iff_toInt_lt, iI_toInt hX.1 hX.2, iI_toInt hY.1 hY.2]
    by_cases h : X < Y
    · rw [if_pos (h0.mpr h), Int.max_eq_right (Int.le_of_lt h)]
    · rw [if_neg (fun q => h (h0.mp q)), Int.max_eq_left (Int.not_lt.mp h)]
theorem V.newarr (C : Cx p s m args meth c cc nL own D tys A) {at9 : ArrayType} {ty : FieldType} {N : Nat} {a0 : vp_A} {cA : ClassId} {t0 : Nat} (harr : .arrayClass (newarray.typeOf at9) ∈ wT) (hty : newarray.typeOf at9 = ty) (hta : tys.1[t0]? = some (cA, ty)) (ha : ∀ cA : ClassId, vp_cell cA a0 = arrV cA N (fun _ => defaultValue ty)) (hobj : ∀ Cn, ty ≠ .object Cn) (hN : N < 2147483648) (hby : N * componentBytes ty ≤ 536870912) (hcs : cells + 1 ≤ R.cells) (hsl : slots + N ≤ R.slots) (hdg : decode cc pc = .ok (.newarray at9, 2)) (hn : pc + 2 = n) (k : ∀ q : Nat, V p l e R s m args below meth c nL D A (cells + 1) (slots + N) Q (ws ++ [(q, .inl (cA, a0))]) lv n (.ref q :: st)) : V p l e R s m args below meth c nL D A cells slots Q ws lv pc (.int (nI N) :: st) := by
  subst hn
  intro H locs ls hP hD hS hl
  refine va_newa C.1 C.2.1 (C.2.2.2.2.1 _ harr) hty C.2.2.2.2.2.1 hP hD hS C.2.2.2.2.2.2.1 ha (nI_pos (by simpa using hN)) (nI_clamp (by simpa using hN)) hby hcs hsl hdg (fun q cB H1 hK1 hP1 hD1 hS1 => ?_)
  have e1 : cB = cA := by
    have h1 := (hK1.2 tys.1.length (cB, ty) (by simp)).2
    have h2 := (C.2.2.2.2.2.1.2 t0 _ hta).2
    have h3 : s.vm.findClass ("[" ++ ty.toString) = some cB := by cases ty <;> first | exact h1 | exact absurd rfl (hobj _)
    have h4 : s.vm.findClass ("[" ++ ty.toString) = some cA := by cases ty <;> first | exact h2 | exact absurd rfl (hobj _)
    exact Option.some.inj (h3.symm.trans h4)
  subst e1
  exact k q H1 locs ls hP1 hD1 hS1 hl
theorem V.new (C : Cx p s m args meth c cc nL own D tys A) {ci N idx : Nat} {Cn : String} {T : u_T} {ty : Nat → FieldType} {fs : List Value} (hc : clOk ci Cn T N ty) (hw : .classLink own idx Cn ∈ wT ∧ .instantiable Cn N ∈ wT ∧ .initialized Cn ∈ wT) (hfs : ∀ j, j < N → defaultValue (ty j) = vp_V fs j) (hcs : cells + 1 ≤ R.cells) (hsl : slots + N ≤ R.slots) (hdg : decode cc pc = .ok (.new idx, 3)) (hn : pc + 3 = n) (k : ∀ q : Nat, V p l e R s m args below meth c nL D A (cells + 1) (slots + N) Q (ws ++ [(q, .inr (ci, fs))]) lv n (.ref q :: st)) : V p l e R s m args below meth c nL D A cells slots Q ws lv pc st := by
  subst hn
  obtain ⟨h1, h2, h3, h4⟩ := hc
  intro H locs ls hP hD hS hl
  exact va_new C.1 C.2.1 C.2.2.2.2.1 h2 ty h3 C.2.2.2.1 (C.2.2.2.2.1 _ hw.1) (C.2.2.2.2.1 _ hw.2.1) (C.2.2.2.2.1 _ hw.2.2) C.2.2.2.2.2.1 hP hD hS C.2.2.2.2.2.2.1 h1 hfs hcs hsl hdg (fun q H1 hP1 hD1 hS1 => k q H1 locs ls hP1 hD1 hS1 hl)
theorem V.objInit (C : Cx p s m args meth c cc nL own D tys A) {a idx : Nat} (hw : .methodLink own idx Lib.objectInit ∈ wT ∧ .instanceMethod Lib.objectInit ∈ wT ∧ .code Lib.objectInit ⟨#[0xb1]⟩ 1 none ∈ wT) (hfr : 1 ≤ R.frames) (hlo : (st.map fun v => v.category).sum + 12 ≤ R.locals) (hdg : decode cc pc = .ok (.invokespecial idx, 3)) (hn : pc + 3 = n) (k : V p l e R s m args below meth c nL D A cells slots Q ws lv n st) : V p l e R s m args below meth c nL D A cells slots Q ws lv pc (.ref a :: st) := by
  subst hn
  intro H locs ls hP hD hS hl
  exact W.objInit C.1 C.2.1 C.2.2.2.1 (C.2.2.2.2.1 _ hw.1) (C.2.2.2.2.1 _ hw.2.1) (C.2.2.2.2.1 _ hw.2.2) (g := F0 m pc ls (.ref a :: st)) rfl (hl.1.trans C.2.2.1.symm) rfl hdg hfr (by show 2 * 0 + _ + 12 ≤ _; omega) (k H locs ls hP hD hS hl)
theorem V.widen (C : Cx p s m args meth c cc nL own D tys A) {k0 n0 : Nat} (h1 : cells ≤ k0) (h2 : slots ≤ n0) (k : V p l e R s m args below meth c nL D A k0 n0 Q ws lv pc st) : V p l e R s m args below meth c nL D A cells slots Q ws lv pc st := by
  intro H locs ls hP hD hS hl
  exact W.widen h1 h2 (k H locs ls hP hD hS hl)
theorem V.re (C : Cx p s m args meth c cc nL own D tys A) (is : List Nat) (h : pickW ws is = ws') (hb : ∀ i ∈ is, i < ws.length) (hn : va_nd is = true) (k : V p l e R s m args below meth c nL D A cells slots Q ws' lv pc st) : V p l e R s m args below meth c nL D A cells slots Q ws lv pc st := by
  subst h
  intro H locs ls hP hD hS hl
  exact k H locs ls (hP.sub is rfl) (hD.sub is hn (pickW_map hb)) hS hl
/-- a contract's start is blind to the frame, and holds at a call -/
theorem pre_blind {As : List Value} {W0 : va_W} {sz : Nat} : FrameBlind (va_Pc As (fun U => U.heap.size = sz ∧ va_P D vwCl W0 U.heap ∧ va_K D vwCl tys.1 U ∧ va_D (fun _ => True) W0 ∧ SF tys.2 (va_A W0 sz) U)) := fun a U g mk q => by
  obtain ⟨q0, q1, qP, qK, qD, qF⟩ := q
  exact ⟨q0, q1, qP, va_K.moved (u := U) (U := U.calling g mk a) (Vm.Alike.refl U.vm) qK, qD, SF_calling qF⟩
theorem pre_at (C : Cx p s m args meth c cc nL own D tys A) {As : List Value} {W0 : va_W} {is : List Nat} {H : Heap} {locs : List Loc} (hP : va_P D vwCl ws H) (hD : va_D A ws) (hS : va_S A s.heap H locs) (hC : pickW ws is = W0) (hb : ∀ i ∈ is, i < ws.length) (hnd : va_nd is = true) : ∀ U : State, U.heap = H → s.WarmedH U.vm → va_Pc As (fun U => U.heap.size = H.size ∧ va_P D vwCl W0 U.heap ∧ va_K D vwCl tys.1 U ∧ va_D (fun _ => True) W0 ∧ SF tys.2 (va_A W0 H.size) U) As.toArray U := by
  intro U hU hW
  have hm : is.map (fun i => ws[i]?) = W0.map some := by rw [← hC]; exact pickW_map hb
  exact ⟨rfl, by rw [hU], by rw [hU]; exact hP.sub is hC, va_K.moved hW.alike C.2.2.2.2.2.1, (hD.sub is hnd hm).weaken (fun _ _ _ _ => trivial), SF_call C.2.2.2.2.2.2.2.2 hS (va_free hD hS C.2.2.2.2.2.2.1 is hm) hU hW⟩
theorem V.behind_i (C : Cx p s m args meth c cc nL own D tys A) {isC isR pm : List Nat} {W0 W1 : va_W} {R' : Int32} {a : Array Value}
    (hC : pickW ws isC = W0) (hbC : ∀ i ∈ isC, i < ws.length) (hbR : ∀ i ∈ isR, i < ws.length) (hnR : va_nd isR = true) (hdis : ∀ i ∈ isR, i ∉ isC) (hw : pickW (pickW ws isR ++ W1) pm = ws') (hbP : ∀ i ∈ pm, i < (pickW ws isR ++ W1).length) (hnP : va_nd pm = true)
    (hrun : ∀ (H : Heap) (locs : List Loc) (ls : Array Slot), va_P D vwCl ws H → va_D A ws → va_S A s.heap H locs → lv_has ls nL lv → va_Run p l e R s m args below meth c H locs cells slots 0 0 (F0 m pc ls st) rest (va_Qi (fun (r : Int32) (_ : Unit) => r = R') (fun _ t => va_P D vwCl W1 t.heap ∧ va_K D vwCl tys.1 t ∧ va_D (va_A W0 H.size) W1) (va_A W0 H.size) a) (va_A W0 H.size))
    (hn : pc + 3 = n) (k : V p l e R s m args below meth c nL D A cells slots Q ws' lv n (.int R' :: rest)) : V p l e R s m args below meth c nL D A cells slots Q ws lv pc st := by
  subst hn
  subst hw
  intro H locs ls hP hD hS hl
  have hm : isC.map (fun i => ws[i]?) = W0.map some := by rw [← hC]; exact pickW_map hbC
  have hF := va_free hD hS C.2.2.2.2.2.2.1 isC hm
  refine va_calli (hrun H locs ls hP hD hS hl) hS (fun q _ h => hF q h) hF (fun r u t H1 locs1 ht hvm hpost hB hz hk hS1 => ?_)
  subst hpost
  obtain ⟨hP1, hK1, hD1⟩ := hB
  rw [ht] at hP1
  obtain ⟨hP2, hD2⟩ := va_join (wr := pickW ws isR) hP hD isC isR hm (pickW_map hbR) hnR hdis hk hF hP1 hD1
  exact k H1 locs1 ls (hP2.sub pm rfl) (hD2.sub pm hnP (pickW_map hbP)) hS1 hl
theorem V.behind_v (C : Cx p s m args meth c cc nL own D tys A) {isC isR pm : List Nat} {W0 : va_W} {S : Type} {post : S → Prop} {W1 ws2 : S → va_W} {mc ms : Nat} {a : Array Value}
    (hC : pickW ws isC = W0) (hbC : ∀ i ∈ isC, i < ws.length) (hbR : ∀ i ∈ isR, i < ws.length) (hnR : va_nd isR = true) (hdis : ∀ i ∈ isR, i ∉ isC) (hw : ∀ u, pickW (pickW ws isR ++ W1 u) pm = ws2 u) (hbP : ∀ u, ∀ i ∈ pm, i < (pickW ws isR ++ W1 u).length) (hnP : va_nd pm = true)
    (hrun : ∀ (H : Heap) (locs : List Loc) (ls : Array Slot), va_P D vwCl ws H → va_D A ws → va_S A s.heap H locs → lv_has ls nL lv → va_Run p l e R s m args below meth c H locs cells slots mc ms (F0 m pc ls st) rest (va_Qv post (fun u t => va_P D vwCl (W1 u) t.heap ∧ va_K D vwCl tys.1 t ∧ va_D (va_A W0 H.size) (W1 u)) (va_A W0 H.size) a) (va_A W0 H.size))
    (hn : pc + 3 = n) (k : ∀ u : S, post u → V p l e R s m args below meth c nL D A (cells + mc) (slots + ms) Q (ws2 u) lv n rest) : V p l e R s m args below meth c nL D A cells slots Q ws lv pc st := by
  subst hn
  intro H locs ls hP hD hS hl
  have hm : isC.map (fun i => ws[i]?) = W0.map some := by rw [← hC]; exact pickW_map hbC
  have hF := va_free hD hS C.2.2.2.2.2.2.1 isC hm
  refine va_callv (hrun H locs ls hP hD hS hl) hS (fun q _ h => hF q h) hF (fun u t H1 locs1 ht hvm hpost hB hz hk hS1 => ?_)
  obtain ⟨hP1, hK1, hD1⟩ := hB
  rw [ht] at hP1
  obtain ⟨hP2, hD2⟩ := va_join (wr := pickW ws isR) hP hD isC isR hm (pickW_map hbR) hnR hdis hk hF hP1 hD1
  have k2 := k u hpost
  rw [← hw u] at k2
  exact k2 H1 locs1 ls (hP2.sub pm rfl) (hD2.sub pm hnP (pickW_map (hbP u))) hS1 hl
theorem V.callV_i (C : Cx p s m args meth c cc nL own D tys A) {M : MI} {rm : Room} {As : List Value} {b : Nat} {W0 : va_W} {nA idx : Nat} {W1 : va_W} {R' : Int32} {qr ci N : Nat} {T : u_T} {fs : List Value} (hM : CI l D tys M rm (.ref b :: As) W0 R' W1) (cw : cwv own idx M nA) (isC isR pm : List Nat) (hrc : W0[qr]? = some (b, .inr (ci, fs))) (hcl : vwCl[ci]? = some (M.1.cls, T, N)) (hC : pickW ws isC = W0) (hbC : ∀ i ∈ isC, i < ws.length) (hnC : va_nd isC = true) (hbR : ∀ i ∈ isR, i < ws.length) (hnR : va_nd isR = true) (hdis : ∀ i ∈ isR, i ∉ isC) (hw : pickW (pickW ws isR ++ W1) pm = ws') (hbP : ∀ i ∈ pm, i < (pickW ws isR ++ W1).length) (hnP : va_nd pm = true) (hrm : rm.cells = 0 ∧ rm.slots = 0) (hR : rm.frames + 1 ≤ R.frames ∧ 8 + (M.2.2.1 + 11) + rm.locals ≤ R.locals) (hcs : cells + 0 ≤ R.cells ∧ slots + 0 ≤ R.slots) (hnA : As.length = nA) (hst : st = As.reverse ++ .ref b :: rest) (hro : (rest.map fun v => v.category).sum ≤ 8) (hdg : decode cc pc = .ok (.invokevirtual idx, 3)) (hn : pc + 3 = n) (k : V p l e R s m args below meth c nL D A cells slots Q ws' lv n (.int R' :: rest)) : V p l e R s m args below meth c nL D A cells slots Q ws lv pc st := by
  subst hst
  refine V.behind_i C (a := ((.ref b :: As)).toArray) (isC := isC) (isR := isR) (pm := pm) hC hbC hbR hnR hdis hw hbP hnP (fun H locs ls hP hD hS hl => ?_) hn k
  obtain ⟨w1, w2, w3, w4, w5, w6⟩ := cw
  have hc2 : CallB R s args own idx M.1 M.2.1 M.2.2.1 M.2.2.2 (.code M.1 M.2.1 M.2.2.1 M.2.2.2 :: wT) rm 0 0 nA := callB_of nA C.2.2.2.2.1 (good_cons w5) rfl hrm.1 hrm.2 (C.2.2.2.2.1 _ w4) (C.2.2.2.2.1 _ w1) w6 hR
  exact va_runV ⟨C.1, C.2.1, C.2.2.1, C.2.2.2.1, C.2.2.2.2.1⟩ (hM H.size) ⟨hc2, C.2.2.2.2.1 _ w2, C.2.2.2.2.1 _ w3⟩ ⟨pre_blind, va_recv C.2.2.2.2.2.1 (hP.sub isC hC) hcl hrc, pre_at C (As := (.ref b :: As)) hP hD hS hC hbC hnC⟩ rfl hnA hl.1 rfl (lv_room hro) hdg hcs
theorem V.callV_v (C : Cx p s m args meth c cc nL own D tys A) {M : MI} {rm : Room} {As : List Value} {b : Nat} {W0 : va_W} {nA idx : Nat} {S : Type} {post : S → Prop} {W1 ws2 : S → va_W} {mc ms : Nat} {qr ci N : Nat} {T : u_T} {fs : List Value} (hM : CN l D tys M rm (.ref b :: As) W0 post W1 mc ms) (cw : cwv own idx M nA) (isC isR pm : List Nat) (hrc : W0[qr]? = some (b, .inr (ci, fs))) (hcl : vwCl[ci]? = some (M.1.cls, T, N)) (hC : pickW ws isC = W0) (hbC : ∀ i ∈ isC, i < ws.length) (hnC : va_nd isC = true) (hbR : ∀ i ∈ isR, i < ws.length) (hnR : va_nd isR = true) (hdis : ∀ i ∈ isR, i ∉ isC) (hw : ∀ u, pickW (pickW ws isR ++ W1 u) pm = ws2 u) (hbP : ∀ u, ∀ i ∈ pm, i < (pickW ws isR ++ W1 u).length) (hnP : va_nd pm = true) (hrm : rm.cells = mc ∧ rm.slots = ms) (hR : rm.frames + 1 ≤ R.frames ∧ 8 + (M.2.2.1 + 11) + rm.locals ≤ R.locals) (hcs : cells + mc ≤ R.cells ∧ slots + ms ≤ R.slots) (hnA : As.length = nA) (hst : st = As.reverse ++ .ref b :: rest) (hro : (rest.map fun v => v.category).sum ≤ 8) (hdg : decode cc pc = .ok (.invokevirtual idx, 3)) (hn : pc + 3 = n) (k : ∀ u : S, post u → V p l e R s m args below meth c nL D A (cells + mc) (slots + ms) Q (ws2 u) lv n rest) : V p l e R s m args below meth c nL D A cells slots Q ws lv pc st := by
  subst hst
  refine V.behind_v C (a := ((.ref b :: As)).toArray) (isC := isC) (isR := isR) (pm := pm) hC hbC hbR hnR hdis hw hbP hnP (fun H locs ls hP hD hS hl => ?_) hn k
  obtain ⟨w1, w2, w3, w4, w5, w6⟩ := cw
  have hc2 : CallB R s args own idx M.1 M.2.1 M.2.2.1 M.2.2.2 (.code M.1 M.2.1 M.2.2.1 M.2.2.2 :: wT) rm mc ms nA := callB_of nA C.2.2.2.2.1 (good_cons w5) rfl hrm.1 hrm.2 (C.2.2.2.2.1 _ w4) (C.2.2.2.2.1 _ w1) w6 hR
  exact va_runV ⟨C.1, C.2.1, C.2.2.1, C.2.2.2.1, C.2.2.2.2.1⟩ (hM H.size) ⟨hc2, C.2.2.2.2.1 _ w2, C.2.2.2.2.1 _ w3⟩ ⟨pre_blind, va_recv C.2.2.2.2.2.1 (hP.sub isC hC) hcl hrc, pre_at C (As := (.ref b :: As)) hP hD hS hC hbC hnC⟩ rfl hnA hl.1 rfl (lv_room hro) hdg hcs
theorem V.callK_i (C : Cx p s m args meth c cc nL own D tys A) {M : MI} {rm : Room} {As : List Value} {b : Nat} {W0 : va_W} {nA idx : Nat} {W1 : va_W} {R' : Int32} (hM : CI l D tys M rm (.ref b :: As) W0 R' W1) (cw : cwv own idx M nA) (isC isR pm : List Nat) (hrk : ∀ (H : Heap) (locs : List Loc), va_S A s.heap H locs → ∃ cell : Cell, H[b]? = some cell ∧ cell.vm.isStatics = false ∧ s.vm.findClass M.1.cls = some cell.cls) (hC : pickW ws isC = W0) (hbC : ∀ i ∈ isC, i < ws.length) (hnC : va_nd isC = true) (hbR : ∀ i ∈ isR, i < ws.length) (hnR : va_nd isR = true) (hdis : ∀ i ∈ isR, i ∉ isC) (hw : pickW (pickW ws isR ++ W1) pm = ws') (hbP : ∀ i ∈ pm, i < (pickW ws isR ++ W1).length) (hnP : va_nd pm = true) (hrm : rm.cells = 0 ∧ rm.slots = 0) (hR : rm.frames + 1 ≤ R.frames ∧ 8 + (M.2.2.1 + 11) + rm.locals ≤ R.locals) (hcs : cells + 0 ≤ R.cells ∧ slots + 0 ≤ R.slots) (hnA : As.length = nA) (hst : st = As.reverse ++ .ref b :: rest) (hro : (rest.map fun v => v.category).sum ≤ 8) (hdg : decode cc pc = .ok (.invokevirtual idx, 3)) (hn : pc + 3 = n) (k : V p l e R s m args below meth c nL D A cells slots Q ws' lv n (.int R' :: rest)) : V p l e R s m args below meth c nL D A cells slots Q ws lv pc st := by
  subst hst
  refine V.behind_i C (a := ((.ref b :: As)).toArray) (isC := isC) (isR := isR) (pm := pm) hC hbC hbR hnR hdis hw hbP hnP (fun H locs ls hP hD hS hl => ?_) hn k
  obtain ⟨w1, w2, w3, w4, w5, w6⟩ := cw
  have hc2 : CallB R s args own idx M.1 M.2.1 M.2.2.1 M.2.2.2 (.code M.1 M.2.1 M.2.2.1 M.2.2.2 :: wT) rm 0 0 nA := callB_of nA C.2.2.2.2.1 (good_cons w5) rfl hrm.1 hrm.2 (C.2.2.2.2.1 _ w4) (C.2.2.2.2.1 _ w1) w6 hR
  exact va_runV ⟨C.1, C.2.1, C.2.2.1, C.2.2.2.1, C.2.2.2.2.1⟩ (hM H.size) ⟨hc2, C.2.2.2.2.1 _ w2, C.2.2.2.2.1 _ w3⟩ ⟨pre_blind, hrk H locs hS, pre_at C (As := (.ref b :: As)) hP hD hS hC hbC hnC⟩ rfl hnA hl.1 rfl (lv_room hro) hdg hcs
theorem V.callS_i (C : Cx p s m args meth c cc nL own D tys A) {M : MI} {rm : Room} {As : List Value} {W0 : va_W} {nA idx : Nat} {W1 : va_W} {R' : Int32} (hM : CI l D tys M rm As W0 R' W1) (cw : cws own idx M nA) (isC isR pm : List Nat) (hC : pickW ws isC = W0) (hbC : ∀ i ∈ isC, i < ws.length) (hnC : va_nd isC = true) (hbR : ∀ i ∈ isR, i < ws.length) (hnR : va_nd isR = true) (hdis : ∀ i ∈ isR, i ∉ isC) (hw : pickW (pickW ws isR ++ W1) pm = ws') (hbP : ∀ i ∈ pm, i < (pickW ws isR ++ W1).length) (hnP : va_nd pm = true) (hrm : rm.cells = 0 ∧ rm.slots = 0) (hR : rm.frames + 1 ≤ R.frames ∧ 8 + (M.2.2.1 + 11) + rm.locals ≤ R.locals) (hcs : cells + 0 ≤ R.cells ∧ slots + 0 ≤ R.slots) (hnA : As.length = nA) (hst : st = As.reverse ++ rest) (hro : (rest.map fun v => v.category).sum ≤ 8) (hdg : decode cc pc = .ok (.invokestatic idx, 3)) (hn : pc + 3 = n) (k : V p l e R s m args below meth c nL D A cells slots Q ws' lv n (.int R' :: rest)) : V p l e R s m args below meth c nL D A cells slots Q ws lv pc st := by
  subst hst
  refine V.behind_i C (a := (As).toArray) (isC := isC) (isR := isR) (pm := pm) hC hbC hbR hnR hdis hw hbP hnP (fun H locs ls hP hD hS hl => ?_) hn k
  obtain ⟨w1, w2, w4, w5, w6⟩ := cw
  have hc2 : CallB R s args own idx M.1 M.2.1 M.2.2.1 M.2.2.2 (.code M.1 M.2.1 M.2.2.1 M.2.2.2 :: wT) rm 0 0 nA := callB_of nA C.2.2.2.2.1 (good_cons w5) rfl hrm.1 hrm.2 (C.2.2.2.2.1 _ w4) (C.2.2.2.2.1 _ w1) w6 hR
  exact va_runS ⟨C.1, C.2.1, C.2.2.1, C.2.2.2.1, C.2.2.2.2.1⟩ (hM H.size) ⟨hc2, C.2.2.2.2.1 _ w2⟩ ⟨pre_blind, pre_at C (As := As) hP hD hS hC hbC hnC⟩ rfl hnA hl.1 rfl (lv_room hro) hdg hcs
theorem V.callS_v (C : Cx p s m args meth c cc nL own D tys A) {M : MI} {rm : Room} {As : List Value} {W0 : va_W} {nA idx : Nat} {S : Type} {post : S → Prop} {W1 ws2 : S → va_W} {mc ms : Nat} (hM : CN l D tys M rm As W0 post W1 mc ms) (cw : cws own idx M nA) (isC isR pm : List Nat) (hC : pickW ws isC = W0) (hbC : ∀ i ∈ isC, i < ws.length) (hnC : va_nd isC = true) (hbR : ∀ i ∈ isR, i < ws.length) (hnR : va_nd isR = true) (hdis : ∀ i ∈ isR, i ∉ isC) (hw : ∀ u, pickW (pickW ws isR ++ W1 u) pm = ws2 u) (hbP : ∀ u, ∀ i ∈ pm, i < (pickW ws isR ++ W1 u).length) (hnP : va_nd pm = true) (hrm : rm.cells = mc ∧ rm.slots = ms) (hR : rm.frames + 1 ≤ R.frames ∧ 8 + (M.2.2.1 + 11) + rm.locals ≤ R.locals) (hcs : cells + mc ≤ R.cells ∧ slots + ms ≤ R.slots) (hnA : As.length = nA) (hst : st = As.reverse ++ rest) (hro : (rest.map fun v => v.category).sum ≤ 8) (hdg : decode cc pc = .ok (.invokestatic idx, 3)) (hn : pc + 3 = n) (k : ∀ u : S, post u → V p l e R s m args below meth c nL D A (cells + mc) (slots + ms) Q (ws2 u) lv n rest) : V p l e R s m args below meth c nL D A cells slots Q ws lv pc st := by
  subst hst
  refine V.behind_v C (a := (As).toArray) (isC := isC) (isR := isR) (pm := pm) hC hbC hbR hnR hdis hw hbP hnP (fun H locs ls hP hD hS hl => ?_) hn k
  obtain ⟨w1, w2, w4, w5, w6⟩ := cw
  have hc2 : CallB R s args own idx M.1 M.2.1 M.2.2.1 M.2.2.2 (.code M.1 M.2.1 M.2.2.1 M.2.2.2 :: wT) rm mc ms nA := callB_of nA C.2.2.2.2.1 (good_cons w5) rfl hrm.1 hrm.2 (C.2.2.2.2.1 _ w4) (C.2.2.2.2.1 _ w1) w6 hR
  exact va_runS ⟨C.1, C.2.1, C.2.2.1, C.2.2.2.1, C.2.2.2.2.1⟩ (hM H.size) ⟨hc2, C.2.2.2.2.1 _ w2⟩ ⟨pre_blind, pre_at C (As := As) hP hD hS hC hbC hnC⟩ rfl hnA hl.1 rfl (lv_room hro) hdg hcs
theorem V.callSN_i (C : Cx p s m args meth c cc nL own D tys A) {M : MI} {rm : Room} {As : List Value} {host : String} {W0 : va_W} {nA idx : Nat} {W1 : va_W} {R' : Int32} (hM : CI l D tys M rm As W0 R' W1) (cw : cwsN own idx M nA host) (isC isR pm : List Nat) (hC : pickW ws isC = W0) (hbC : ∀ i ∈ isC, i < ws.length) (hnC : va_nd isC = true) (hbR : ∀ i ∈ isR, i < ws.length) (hnR : va_nd isR = true) (hdis : ∀ i ∈ isR, i ∉ isC) (hw : pickW (pickW ws isR ++ W1) pm = ws') (hbP : ∀ i ∈ pm, i < (pickW ws isR ++ W1).length) (hnP : va_nd pm = true) (hrm : rm.cells = 0 ∧ rm.slots = 0) (hR : rm.frames + 1 ≤ R.frames ∧ 8 + (M.2.2.1 + 11) + rm.locals ≤ R.locals) (hcs : cells + 0 ≤ R.cells ∧ slots + 0 ≤ R.slots) (hnA : As.length = nA) (hst : st = As.reverse ++ rest) (hro : (rest.map fun v => v.category).sum ≤ 8) (hdg : decode cc pc = .ok (.invokestatic idx, 3)) (hn : pc + 3 = n) (k : V p l e R s m args below meth c nL D A cells slots Q ws' lv n (.int R' :: rest)) : V p l e R s m args below meth c nL D A cells slots Q ws lv pc st := by
  subst hst
  refine V.behind_i C (a := (As).toArray) (isC := isC) (isR := isR) (pm := pm) hC hbC hbR hnR hdis hw hbP hnP (fun H locs ls hP hD hS hl => ?_) hn k
  obtain ⟨w1, w2, w4, w5, w6⟩ := cw
  have hc2 : va_CN R s args own idx M.1 host M.2.1 M.2.2.1 M.2.2.2 (.code M.1 M.2.1 M.2.2.1 M.2.2.2 :: wT) rm 0 0 nA := va_cnB nA C.2.2.2.2.1 (good_cons w5) rfl hrm.1 hrm.2 (C.2.2.2.2.2.2.2.2.1 _ w1) (C.2.2.2.2.1 _ w4) w6 hR
  exact va_runSN ⟨C.1, C.2.1, C.2.2.1, C.2.2.2.1, C.2.2.2.2.1⟩ (hM H.size) ⟨hc2, C.2.2.2.2.1 _ w2, trivial⟩ ⟨pre_blind, pre_at C (As := As) hP hD hS hC hbC hnC⟩ rfl hnA hl.1 rfl (lv_room hro) hdg hcs
theorem V.callI_v (C : Cx p s m args meth c cc nL own D tys A) {M : MI} {rm : Room} {As : List Value} {b : Nat} {W0 : va_W} {nA idx : Nat} {S : Type} {post : S → Prop} {W1 ws2 : S → va_W} {mc ms : Nat} (hM : CN l D tys M rm (.ref b :: As) W0 post W1 mc ms) (cw : cwi own idx M nA) (isC isR pm : List Nat) (hret : M.2.2.2 = none) (hC : pickW ws isC = W0) (hbC : ∀ i ∈ isC, i < ws.length) (hnC : va_nd isC = true) (hbR : ∀ i ∈ isR, i < ws.length) (hnR : va_nd isR = true) (hdis : ∀ i ∈ isR, i ∉ isC) (hw : ∀ u, pickW (pickW ws isR ++ W1 u) pm = ws2 u) (hbP : ∀ u, ∀ i ∈ pm, i < (pickW ws isR ++ W1 u).length) (hnP : va_nd pm = true) (hrm : rm.cells = mc ∧ rm.slots = ms) (hR : rm.frames + 1 ≤ R.frames ∧ 8 + (M.2.2.1 + 11) + rm.locals ≤ R.locals) (hcs : cells + mc ≤ R.cells ∧ slots + ms ≤ R.slots) (hnA : As.length = nA) (hst : st = As.reverse ++ .ref b :: rest) (hro : (rest.map fun v => v.category).sum ≤ 8) (hdg : decode cc pc = .ok (.invokespecial idx, 3)) (hn : pc + 3 = n) (k : ∀ u : S, post u → V p l e R s m args below meth c nL D A (cells + mc) (slots + ms) Q (ws2 u) lv n rest) : V p l e R s m args below meth c nL D A cells slots Q ws lv pc st := by
  subst hst
  refine V.behind_v C (a := ((.ref b :: As)).toArray) (isC := isC) (isR := isR) (pm := pm) hC hbC hbR hnR hdis hw hbP hnP (fun H locs ls hP hD hS hl => ?_) hn k
  obtain ⟨y9, b9, n9, r9⟩ := M
  cases hret
  obtain ⟨w1, w2, w4, w5, w7, w6⟩ := cw
  have hc2 : CallB R s args own idx y9 b9 n9 none (.code y9 b9 n9 none :: wT) rm mc ms nA := callB_of nA C.2.2.2.2.1 (good_cons w5) rfl hrm.1 hrm.2 (C.2.2.2.2.1 _ w4) (C.2.2.2.2.1 _ w1) w6 hR
  exact va_runI ⟨C.1, C.2.1, C.2.2.1, C.2.2.2.1, C.2.2.2.2.1⟩ (hM H.size) ⟨hc2, w7, C.2.2.2.2.1 _ w2⟩ ⟨pre_blind, pre_at C (As := (.ref b :: As)) hP hD hS hC hbC hnC⟩ rfl hnA hl.1 rfl (lv_room hro) hdg hcs
theorem V.callIN_v (C : Cx p s m args meth c cc nL own D tys A) {M : MI} {rm : Room} {As : List Value} {b : Nat} {host : String} {W0 : va_W} {nA idx : Nat} {S : Type} {post : S → Prop} {W1 ws2 : S → va_W} {mc ms : Nat} (hM : CN l D tys M rm (.ref b :: As) W0 post W1 mc ms) (cw : cwiN own idx M nA host) (isC isR pm : List Nat) (hret : M.2.2.2 = none) (hC : pickW ws isC = W0) (hbC : ∀ i ∈ isC, i < ws.length) (hnC : va_nd isC = true) (hbR : ∀ i ∈ isR, i < ws.length) (hnR : va_nd isR = true) (hdis : ∀ i ∈ isR, i ∉ isC) (hw : ∀ u, pickW (pickW ws isR ++ W1 u) pm = ws2 u) (hbP : ∀ u, ∀ i ∈ pm, i < (pickW ws isR ++ W1 u).length) (hnP : va_nd pm = true) (hrm : rm.cells = mc ∧ rm.slots = ms) (hR : rm.frames + 1 ≤ R.frames ∧ 8 + (M.2.2.1 + 11) + rm.locals ≤ R.locals) (hcs : cells + mc ≤ R.cells ∧ slots + ms ≤ R.slots) (hnA : As.length = nA) (hst : st = As.reverse ++ .ref b :: rest) (hro : (rest.map fun v => v.category).sum ≤ 8) (hdg : decode cc pc = .ok (.invokespecial idx, 3)) (hn : pc + 3 = n) (k : ∀ u : S, post u → V p l e R s m args below meth c nL D A (cells + mc) (slots + ms) Q (ws2 u) lv n rest) : V p l e R s m args below meth c nL D A cells slots Q ws lv pc st := by
  subst hst
  refine V.behind_v C (a := ((.ref b :: As)).toArray) (isC := isC) (isR := isR) (pm := pm) hC hbC hbR hnR hdis hw hbP hnP (fun H locs ls hP hD hS hl => ?_) hn k
  obtain ⟨y9, b9, n9, r9⟩ := M
  cases hret
  obtain ⟨w1, w2, w4, w5, w7, w6⟩ := cw
  have hc2 : va_CN R s args own idx y9 host b9 n9 none (.code y9 b9 n9 none :: wT) rm mc ms nA := va_cnB nA C.2.2.2.2.1 (good_cons w5) rfl hrm.1 hrm.2 (C.2.2.2.2.2.2.2.2.1 _ w1) (C.2.2.2.2.1 _ w4) w6 hR
  exact va_runIN ⟨C.1, C.2.1, C.2.2.1, C.2.2.2.1, C.2.2.2.2.1⟩ (hM H.size) ⟨hc2, w7, C.2.2.2.2.1 _ w2⟩ ⟨pre_blind, pre_at C (As := (.ref b :: As)) hP hD hS hC hbC hnC⟩ rfl hnA hl.1 rfl (lv_room hro) hdg hcs
theorem V.iret {W0 W1 : va_W} {R' v : Int32} (C : Cx p s m args meth c cc nL own D tys (va_A W0 s.heap.size)) (hr : meth.sig.returnType = some .int) (hdg : decode cc pc = .ok (.ireturn, 1)) (hv : v = R') (hw : ws = W1) : V p l e R s m args below meth c nL D (va_A W0 s.heap.size) cells slots (MQ below (va_Qi (fun (r : Int32) (_ : Unit) => r = R') (fun _ t => va_P D vwCl W1 t.heap ∧ va_K D vwCl tys.1 t ∧ va_D (va_A W0 s.heap.size) W1) (va_A W0 s.heap.size)) args s cells slots (va_A W0 s.heap.size)) ws lv pc [.int v] := by
  subst hv
  subst hw
  intro H locs ls hP hD hS hl
  exact W.iret C.1 C.2.1 hr (fun t ht hW => ⟨⟨_, (), rfl, rfl, by rw [ht]; exact hP, va_K.moved hW.alike C.2.2.2.2.2.1, hD⟩, hS.F ht⟩) hS.2.2 hdg C.2.2.2.2.2.2.2.1
theorem V.zret {W0 W1 : va_W} {R' v : Int32} (C : Cx p s m args meth c cc nL own D tys (va_A W0 s.heap.size)) {ty : FieldType} (hr : meth.sig.returnType = some ty) (hnar : narrow ty (.int R') = .int R') (hdg : decode cc pc = .ok (.ireturn, 1)) (hv : v = R') (hw : ws = W1) : V p l e R s m args below meth c nL D (va_A W0 s.heap.size) cells slots (MQ below (va_Qi (fun (r : Int32) (_ : Unit) => r = R') (fun _ t => va_P D vwCl W1 t.heap ∧ va_K D vwCl tys.1 t ∧ va_D (va_A W0 s.heap.size) W1) (va_A W0 s.heap.size)) args s cells slots (va_A W0 s.heap.size)) ws lv pc [.int v] := by
  subst hv
  subst hw
  intro H locs ls hP hD hS hl
  exact W.zret C.1 C.2.1 hr hnar (fun t ht hW => ⟨⟨_, (), rfl, rfl, by rw [ht]; exact hP, va_K.moved hW.alike C.2.2.2.2.2.1, hD⟩, hS.F ht⟩) hS.2.2 hdg C.2.2.2.2.2.2.2.1
theorem V.vret {W0 : va_W} {S : Type} {post : S → Prop} {W1 : S → va_W} (C : Cx p s m args meth c cc nL own D tys (va_A W0 s.heap.size)) (hr : meth.sig.returnType = none) (hdg : decode cc pc = .ok (.return_, 1)) (u : S) (hu : post u) (hw : ws = W1 u) : V p l e R s m args below meth c nL D (va_A W0 s.heap.size) cells slots (MQ below (va_Qv post (fun u t => va_P D vwCl (W1 u) t.heap ∧ va_K D vwCl tys.1 t ∧ va_D (va_A W0 s.heap.size) (W1 u)) (va_A W0 s.heap.size)) args s cells slots (va_A W0 s.heap.size)) ws lv pc [] := by
  subst hw
  intro H locs ls hP hD hS hl
  exact W.vret C.1 C.2.1 hr (fun t ht hW => ⟨⟨u, rfl, hu, by rw [ht]; exact hP, va_K.moved hW.alike C.2.2.2.2.2.1, hD⟩, hS.F ht⟩) hS.2.2 hdg C.2.2.2.2.2.2.2.1
end VR
/-- a contract out of a walk -/
theorem CI.of {l : Launch} {D : va_G} {tys : TyS} {y : MethodName} {cc : ByteArray} {nL : Nat} {ret : Option FieldType} {rm : Room} {As : List Value} {W0 : va_W} {R' : Int32} {W1 : va_W} (hy : plainName y.cls = true) (hn : (lg_sl As).length ≤ nL)
    (body : ∀ (p : Program) (e : Env) (s : State) (m : MethodId) (args : Array Value) (below : List Frame) (meth : Method) (c : Code), Cx p s m args meth c cc nL y.cls D tys (va_A W0 s.heap.size) → meth.sig.returnType = ret → V p l e rm s m args below meth c nL D (va_A W0 s.heap.size) 0 0 (MQ below (va_Qi (fun (r : Int32) (_ : Unit) => r = R') (fun _ t => va_P D vwCl W1 t.heap ∧ va_K D vwCl tys.1 t ∧ va_D (va_A W0 s.heap.size) W1) (va_A W0 s.heap.size)) args s 0 0 (va_A W0 s.heap.size)) W0 (lv_args 0 As) 0 []) :
    CI l D tys (y, cc, nL, ret) rm As W0 R' W1 := by
  intro sz
  refine Met.ofW (cc := cc) (maxL := nL) (ret := ret) hy rfl ?_
  intro p e s m args below meth c s₁ B hml hv
  obtain ⟨rfl, hsz, hP, hK, hD0, hF⟩ := hv
  subst hsz
  have hts := atoms_spec (ws := (.code y cc nL ret :: wT)) B.pre
  have hl := lv_entry As (n := nL) hn
  rw [lg_entry_eq]
  exact body p e s m As.toArray below meth c ⟨B.exec, B.bytes, hml, findClass_of_methodNamed B.named, fun w h => hts w (List.mem_cons_of_mem _ h), hK, fun q h => Or.inr h, B.notSynchronized, hF⟩ B.returns s.heap [] _ hP hD0.self va_S.rf hl
theorem CN.of {l : Launch} {D : va_G} {tys : TyS} {y : MethodName} {cc : ByteArray} {nL : Nat} {ret : Option FieldType} {rm : Room} {As : List Value} {W0 : va_W} {S : Type} {post : S → Prop} {W1 : S → va_W} {mc ms : Nat} (hy : plainName y.cls = true) (hn : (lg_sl As).length ≤ nL)
    (body : ∀ (p : Program) (e : Env) (s : State) (m : MethodId) (args : Array Value) (below : List Frame) (meth : Method) (c : Code), Cx p s m args meth c cc nL y.cls D tys (va_A W0 s.heap.size) → meth.sig.returnType = ret → meth.name = y.name → V p l e rm s m args below meth c nL D (va_A W0 s.heap.size) 0 0 (MQ below (va_Qv post (fun u t => va_P D vwCl (W1 u) t.heap ∧ va_K D vwCl tys.1 t ∧ va_D (va_A W0 s.heap.size) (W1 u)) (va_A W0 s.heap.size)) args s mc ms (va_A W0 s.heap.size)) W0 (lv_args 0 As) 0 []) :
    CN l D tys (y, cc, nL, ret) rm As W0 post W1 mc ms := by
  intro sz
  refine Met.ofW (cc := cc) (maxL := nL) (ret := ret) hy rfl ?_
  intro p e s m args below meth c s₁ B hml hv
  obtain ⟨rfl, hsz, hP, hK, hD0, hF⟩ := hv
  subst hsz
  have hts := atoms_spec (ws := (.code y cc nL ret :: wT)) B.pre
  have hl := lv_entry As (n := nL) hn
  rw [lg_entry_eq]
  exact body p e s m As.toArray below meth c ⟨B.exec, B.bytes, hml, findClass_of_methodNamed B.named, fun w h => hts w (List.mem_cons_of_mem _ h), hK, fun q h => Or.inr h, B.notSynchronized, hF⟩ B.returns (name_of_methodNamed B.named B.method).1 s.heap [] _ hP hD0.self va_S.rf hl
/-- a contract that is spoken of otherwise -/
theorem CI.to {l : Launch} {D : va_G} {tys : TyS} {M : MI} {rm : Room} {As : List Value} {W0 W1 W2 : va_W} {R1 R2 : Int32} (h : CI l D tys M rm As W0 R1 W1) (hR : R1 = R2) (hW : W1 = W2) : CI l D tys M rm As W0 R2 W2 := by subst hR; subst hW; exact h
