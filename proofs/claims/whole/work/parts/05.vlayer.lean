/-! 05: the V layer: a walk of one method with its locals, its stack and its cells as lists; all else (machine, tables, heap) is quantified -/
abbrev vCtx : Type := Room × (State → Array Value → List Frame → (Nat → Prop) → State → Prop) × (State → Array Value → (Nat → Prop) → Prop)
def vrm (d mc ms : Nat) : Room := { frames := d, cells := mc, slots := ms, locals := 64 * d }
def vOk (w : vWd) (M : vMet) (p : Program) (s : State) (m : MethodId) (args : Array Value) (meth : Method) (c : Code) (A : Nat → Prop) : Prop :=
  p.tables.exec = Jvm.exec ∧ c.code = M.2.1 ∧ meth.sig.returnType = M.2.2.2 ∧ c.maxLocals = M.2.2.1 ∧ s.vm.findClass M.1.cls = some m.cls ∧ (∀ x ∈ TT, x.before args s = true) ∧ meth.locks = false ∧ va_K (vD w) vwCl (vT w) s ∧ vX w A s s.heap ∧ (∀ q, s.heap.size ≤ q → A q) ∧ meth.name = M.1.name
def V (w : vWd) (M : vMet) (C : vCtx) (k n pc : Nat) (L : List (Nat × Value)) (st : List Value) (ws : va_W) : Prop :=
  ∀ (p : Program) (e : Env) (s : State) (m : MethodId) (args : Array Value) (below : List Frame) (meth : Method) (c : Code) (A : Nat → Prop) (H : Heap) (locs : List Loc) (ls : Array Slot),
    vOk w M p s m args meth c A → C.2.2 s args A → va_P (vD w) vwCl ws H → va_D A ws → va_S A s.heap H locs → lv_has ls M.2.2.1 L → W p w.1 e C.1 s m args below meth c H locs k n (C.2.1 s args below A) (F0 m pc ls st)
def vQ (w : vWd) (Q : Option Value → va_W → Prop) (A : Nat → Prop) : Array Value → State → Outcome → State → Prop := fun _ st oc t => (∃ (r : Option Value) (ws : va_W), oc = .returned r ∧ Q r ws ∧ va_P (vD w) vwCl ws t.heap ∧ va_D A ws) ∧ va_F A st t
/-- the context of a method that is proved by contract -/
def vc (w : vWd) (d mc ms : Nat) (Q : Option Value → va_W → Prop) : vCtx := (vrm d mc ms, fun s args below A => MQ below (vQ w Q A) args s mc ms A, fun _ _ _ => True)
/-- THE CONTRACT: from the cells ws, with these arguments, the method returns r with the cells ws' where Q r ws'; mc cells of ms slots are new at most, d frames deep -/
def Ct (w : vWd) (M : vMet) (d mc ms : Nat) (args : List Value) (ws : va_W) (Q : Option Value → va_W → Prop) : Prop :=
  ∀ sz : Nat, Met w.1 M.1 (vws M) (vrm d mc ms) (va_Pc args (fun U => U.heap.size = sz ∧ va_P (vD w) vwCl ws U.heap ∧ va_K (vD w) vwCl (vT w) U ∧ va_D (fun _ => True) ws ∧ vX w (va_A ws sz) U U.heap)) (vQ w Q (va_A ws sz)) mc ms (va_A ws sz)
theorem Ct.of {w : vWd} {M : vMet} {d mc ms : Nat} {args : List Value} {ws : va_W} {Q : Option Value → va_W → Prop} {L : List (Nat × Value)} (hy : plainName M.1.cls = true) (hn : Nat.ble (lg_sl args).length M.2.2.1 = true) (hL : lv_args 0 args = L) (h : V w M (vc w d mc ms Q) 0 0 0 L [] ws) : Ct w M d mc ms args ws Q := by
  intro sz
  refine Met.ofW (cc := M.2.1) (maxL := M.2.2.1) (ret := M.2.2.2) hy rfl ?_
  intro p e s m args' below meth c s₁ B hml hv
  obtain ⟨rfl, hsz, hP, hK, hD0, hX⟩ := hv
  subst hsz
  have hl := lv_entry args (n := M.2.2.1) (Nat.le_of_ble_eq_true hn)
  rw [hL] at hl
  rw [lg_entry_eq]
  have hts := atoms_spec (ws := vws M) B.pre
  exact h p e s m args.toArray below meth c (va_A ws s.heap.size) s.heap [] _ ⟨B.exec, B.bytes, B.returns, hml, findClass_of_methodNamed B.named, fun x hx => hts x (List.mem_cons_of_mem _ hx), B.notSynchronized, hK, hX, fun q hq => Or.inr hq, (name_of_methodNamed B.named B.method).1⟩ trivial hP hD0.self va_S.rf hl
theorem V.perm {w : vWd} {M : vMet} {C : vCtx} {k n pc : Nat} {L : List (Nat × Value)} {st : List Value} {ws ws' : va_W} (hp : ws.Perm ws') (h : V w M C k n pc L st ws') : V w M C k n pc L st ws :=
  fun p e s m args below meth c A H locs ls o E hP hD hS hl => h p e s m args below meth c A H locs ls o E (va_P_perm hp hP) (va_D_perm hp hD) hS hl
def lins (i : Nat) (v : Value) : List (Nat × Value) → List (Nat × Value)
  | [] => [(i, v)]
  | q :: t => match Nat.blt i q.1 with
    | true => (i, v) :: q :: t
    | false => q :: lins i v t
theorem mem_lins {i : Nat} {v : Value} {q : Nat × Value} : ∀ {l : List (Nat × Value)}, q ∈ lins i v l → q ∈ (i, v) :: l
  | [], h => h
  | r :: t, h => by
    unfold lins at h
    split at h
    · exact h
    · rcases List.mem_cons.mp h with h | h
      · rw [h]; simp
      · rcases List.mem_cons.mp (mem_lins h) with h | h
        · rw [h]; simp
        · simp [h]
def lset (i : Nat) (v : Value) (l : List (Nat × Value)) : List (Nat × Value) := lins i v (l.filter (fun q => !(q.1 == i) && !(q.1 + 1 == i && q.2.category == 2)))
theorem lv_has_lset {ls : Array Slot} {nL i : Nat} {v : Value} {l : List (Nat × Value)} (h : lv_has ls nL ((i, v) :: l.filter (fun q => !(q.1 == i) && !(q.1 + 1 == i && q.2.category == 2)))) : lv_has ls nL (lset i v l) :=
  ⟨h.1, h.2.1, fun q hq => h.2.2 q (mem_lins hq)⟩
def bi : Bool → Int32
  | true => 1
  | false => 0
section VL
variable {w : vWd} {M : vMet} {C : vCtx} {k n pc : Nat} {L : List (Nat × Value)} {st : List Value} {ws : va_W}
/-- fewer locals -/
theorem V.locals {L' : List (Nat × Value)} (hs : ∀ q ∈ L', q ∈ L) (h : V w M C k n pc L' st ws) : V w M C k n pc L st ws :=
  fun p e s m args below meth c A H locs ls o E hP hD hS hl => h p e s m args below meth c A H locs ls o E hP hD hS ⟨hl.1, hl.2.1, fun q hq => hl.2.2 q (hs q hq)⟩
theorem V.widen {k' n' : Nat} (h1 : k ≤ k') (h2 : n ≤ n') (h : V w M C k' n' pc L st ws) : V w M C k n pc L st ws :=
  fun p e s m args below meth c A H locs ls o E hP hD hS hl => W.widen h1 h2 (h p e s m args below meth c A H locs ls o E hP hD hS hl)

theorem V_iconst {i : Int} (v : Int32) (hd : vdec M pc (.iconst i) 1) (hv : Int32.ofInt i = v) (h : V w M C k n (pc + 1) L (.int v :: st) ws) : V w M C k n pc L (st) ws :=
  fun p e s m args below meth c A H locs ls o E hP hD hS hl => lv_iconst o.1 o.2.1 hd hv (h p e s m args below meth c A H locs ls o E hP hD hS hl)
theorem V_bipush {i : Int} (v : Int32) (hd : vdec M pc (.bipush i) 2) (hv : (Int8.ofInt i).toInt32 = v) (h : V w M C k n (pc + 2) L (.int v :: st) ws) : V w M C k n pc L (st) ws :=
  fun p e s m args below meth c A H locs ls o E hP hD hS hl => lv_bipush o.1 o.2.1 hd hv (h p e s m args below meth c A H locs ls o E hP hD hS hl)
theorem V_sipush {i : Int} (v : Int32) (hd : vdec M pc (.sipush i) 3) (hv : (Int16.ofInt i).toInt32 = v) (h : V w M C k n (pc + 3) L (.int v :: st) ws) : V w M C k n pc L (st) ws :=
  fun p e s m args below meth c A H locs ls o E hP hD hS hl => lv_sipush o.1 o.2.1 hd hv (h p e s m args below meth c A H locs ls o E hP hD hS hl)
theorem V_lconst {i : Fin 2} (v : Int64) (hd : vdec M pc (.lconst i) 1) (hv : Int64.ofNat i.val = v) (h : V w M C k n (pc + 1) L (.long v :: st) ws) : V w M C k n pc L (st) ws :=
  fun p e s m args below meth c A H locs ls o E hP hD hS hl => lv_lconst o.1 o.2.1 hd hv (h p e s m args below meth c A H locs ls o E hP hD hS hl)
theorem V_null (hd : vdec M pc (.aconst_null) 1) (h : V w M C k n (pc + 1) L (.null :: st) ws) : V w M C k n pc L (st) ws :=
  fun p e s m args below meth c A H locs ls o E hP hD hS hl => lv_null o.1 o.2.1 hd (h p e s m args below meth c A H locs ls o E hP hD hS hl)
theorem V_iadd {x y : Int32} (hd : vdec M pc (.iadd) 1) (h : V w M C k n (pc + 1) L (.int (x + y) :: st) ws) : V w M C k n pc L (.int y :: .int x :: st) ws :=
  fun p e s m args below meth c A H locs ls o E hP hD hS hl => lv_iadd o.1 o.2.1 hd (h p e s m args below meth c A H locs ls o E hP hD hS hl)
theorem V_isub {x y : Int32} (hd : vdec M pc (.isub) 1) (h : V w M C k n (pc + 1) L (.int (x - y) :: st) ws) : V w M C k n pc L (.int y :: .int x :: st) ws :=
  fun p e s m args below meth c A H locs ls o E hP hD hS hl => lv_isub o.1 o.2.1 hd (h p e s m args below meth c A H locs ls o E hP hD hS hl)
theorem V_imul {x y : Int32} (hd : vdec M pc (.imul) 1) (h : V w M C k n (pc + 1) L (.int (x * y) :: st) ws) : V w M C k n pc L (.int y :: .int x :: st) ws :=
  fun p e s m args below meth c A H locs ls o E hP hD hS hl => lv_imul o.1 o.2.1 hd (h p e s m args below meth c A H locs ls o E hP hD hS hl)
theorem V_iand {x y : Int32} (hd : vdec M pc (.iand) 1) (h : V w M C k n (pc + 1) L (.int (x &&& y) :: st) ws) : V w M C k n pc L (.int y :: .int x :: st) ws :=
  fun p e s m args below meth c A H locs ls o E hP hD hS hl => lv_iand o.1 o.2.1 hd (h p e s m args below meth c A H locs ls o E hP hD hS hl)
theorem V_ior {x y : Int32} (hd : vdec M pc (.ior) 1) (h : V w M C k n (pc + 1) L (.int (x ||| y) :: st) ws) : V w M C k n pc L (.int y :: .int x :: st) ws :=
  fun p e s m args below meth c A H locs ls o E hP hD hS hl => lv_ior o.1 o.2.1 hd (h p e s m args below meth c A H locs ls o E hP hD hS hl)
theorem V_ixor {x y : Int32} (hd : vdec M pc (.ixor) 1) (h : V w M C k n (pc + 1) L (.int (x ^^^ y) :: st) ws) : V w M C k n pc L (.int y :: .int x :: st) ws :=
  fun p e s m args below meth c A H locs ls o E hP hD hS hl => lv_ixor o.1 o.2.1 hd (h p e s m args below meth c A H locs ls o E hP hD hS hl)
theorem V_ishl {x y : Int32} (hd : vdec M pc (.ishl) 1) (h : V w M C k n (pc + 1) L (.int (x <<< (y &&& 31)) :: st) ws) : V w M C k n pc L (.int y :: .int x :: st) ws :=
  fun p e s m args below meth c A H locs ls o E hP hD hS hl => lv_ishl o.1 o.2.1 hd (h p e s m args below meth c A H locs ls o E hP hD hS hl)
theorem V_ishr {x y : Int32} (hd : vdec M pc (.ishr) 1) (h : V w M C k n (pc + 1) L (.int (x >>> (y &&& 31)) :: st) ws) : V w M C k n pc L (.int y :: .int x :: st) ws :=
  fun p e s m args below meth c A H locs ls o E hP hD hS hl => lv_ishr o.1 o.2.1 hd (h p e s m args below meth c A H locs ls o E hP hD hS hl)
theorem V_ladd {x y : Int64} (hd : vdec M pc (.ladd) 1) (h : V w M C k n (pc + 1) L (.long (x + y) :: st) ws) : V w M C k n pc L (.long y :: .long x :: st) ws :=
  fun p e s m args below meth c A H locs ls o E hP hD hS hl => lv_ladd o.1 o.2.1 hd (h p e s m args below meth c A H locs ls o E hP hD hS hl)
theorem V_lsub {x y : Int64} (hd : vdec M pc (.lsub) 1) (h : V w M C k n (pc + 1) L (.long (x - y) :: st) ws) : V w M C k n pc L (.long y :: .long x :: st) ws :=
  fun p e s m args below meth c A H locs ls o E hP hD hS hl => lv_lsub o.1 o.2.1 hd (h p e s m args below meth c A H locs ls o E hP hD hS hl)
theorem V_lmul {x y : Int64} (hd : vdec M pc (.lmul) 1) (h : V w M C k n (pc + 1) L (.long (x * y) :: st) ws) : V w M C k n pc L (.long y :: .long x :: st) ws :=
  fun p e s m args below meth c A H locs ls o E hP hD hS hl => lv_lmul o.1 o.2.1 hd (h p e s m args below meth c A H locs ls o E hP hD hS hl)
theorem V_idiv {x y : Int32} (hd : vdec M pc (.idiv) 1) (hne : ¬ y = 0) (h : V w M C k n (pc + 1) L (.int (x / y) :: st) ws) : V w M C k n pc L (.int y :: .int x :: st) ws :=
  fun p e s m args below meth c A H locs ls o E hP hD hS hl => lv_idiv o.1 o.2.1 hd hne (h p e s m args below meth c A H locs ls o E hP hD hS hl)
theorem V_irem {x y : Int32} (hd : vdec M pc (.irem) 1) (hne : ¬ y = 0) (h : V w M C k n (pc + 1) L (.int (x - x / y * y) :: st) ws) : V w M C k n pc L (.int y :: .int x :: st) ws :=
  fun p e s m args below meth c A H locs ls o E hP hD hS hl => lv_irem o.1 o.2.1 hd hne (h p e s m args below meth c A H locs ls o E hP hD hS hl)
theorem V_ineg {x : Int32} (hd : vdec M pc (.ineg) 1) (h : V w M C k n (pc + 1) L (.int (-x) :: st) ws) : V w M C k n pc L (.int x :: st) ws :=
  fun p e s m args below meth c A H locs ls o E hP hD hS hl => lv_ineg o.1 o.2.1 hd (h p e s m args below meth c A H locs ls o E hP hD hS hl)
theorem V_iushr {x y v : Int32} (hd : vdec M pc (.iushr) 1) (hv : (x.toUInt32 >>> (y.toUInt32 &&& Int32.toUInt32 31)).toInt32 = v) (h : V w M C k n (pc + 1) L (.int v :: st) ws) : V w M C k n pc L (.int y :: .int x :: st) ws :=
  fun p e s m args below meth c A H locs ls o E hP hD hS hl => lv_iushr o.1 o.2.1 hd hv (h p e s m args below meth c A H locs ls o E hP hD hS hl)
theorem V_i2l {x : Int32} (hd : vdec M pc (.i2l) 1) (h : V w M C k n (pc + 1) L (.long x.toInt64 :: st) ws) : V w M C k n pc L (.int x :: st) ws :=
  fun p e s m args below meth c A H locs ls o E hP hD hS hl => lv_i2l o.1 o.2.1 hd rfl (h p e s m args below meth c A H locs ls o E hP hD hS hl)
theorem V_i2b {x : Int32} (hd : vdec M pc (.i2b) 1) (h : V w M C k n (pc + 1) L (.int x.toInt8.toInt32 :: st) ws) : V w M C k n pc L (.int x :: st) ws :=
  fun p e s m args below meth c A H locs ls o E hP hD hS hl => lv_i2b o.1 o.2.1 hd rfl (h p e s m args below meth c A H locs ls o E hP hD hS hl)
theorem V_lcmp {x y : Int64} (hd : vdec M pc (.lcmp) 1) (h : V w M C k n (pc + 1) L (.int (lg_cmp x y) :: st) ws) : V w M C k n pc L (.long y :: .long x :: st) ws :=
  fun p e s m args below meth c A H locs ls o E hP hD hS hl => W.lcmp o.1 o.2.1 hd (h p e s m args below meth c A H locs ls o E hP hD hS hl)
theorem V_dup {va : Value} (hd : vdec M pc (.dup) 1) (hva : va.category = 1) (h : V w M C k n (pc + 1) L (va :: va :: st) ws) : V w M C k n pc L (va :: st) ws :=
  fun p e s m args below meth c A H locs ls o E hP hD hS hl => lv_dup o.1 o.2.1 hd hva (h p e s m args below meth c A H locs ls o E hP hD hS hl)
theorem V_pop {va : Value} (hd : vdec M pc (.pop) 1) (hva : va.category = 1) (h : V w M C k n (pc + 1) L (st) ws) : V w M C k n pc L (va :: st) ws :=
  fun p e s m args below meth c A H locs ls o E hP hD hS hl => lv_pop o.1 o.2.1 hd hva (h p e s m args below meth c A H locs ls o E hP hD hS hl)
theorem V_dup2 {va vb : Value} (hd : vdec M pc (.dup2) 1) (hva : va.category = 1) (hvb : vb.category = 1) (h : V w M C k n (pc + 1) L (va :: vb :: va :: vb :: st) ws) : V w M C k n pc L (va :: vb :: st) ws :=
  fun p e s m args below meth c A H locs ls o E hP hD hS hl => lv_dup2_11 o.1 o.2.1 hd hva hvb (h p e s m args below meth c A H locs ls o E hP hD hS hl)
theorem V_iload_n {i : Fin 4} {x : Int32} (hd : vdec M pc (.iload_n i) 1) (j : Nat) (hj : L[j]? = some (i.val, .int x)) (h : V w M C k n (pc + 1) L (.int x :: st) ws) : V w M C k n pc L st ws :=
  fun p e s m args below meth c A H locs ls o E hP hD hS hl => lv_iload_n o.1 o.2.1 hd rfl (lv_at hl j hj) (h p e s m args below meth c A H locs ls o E hP hD hS hl)
theorem V_iload {i : Nat} {x : Int32} (hd : vdec M pc (.iload i) 2) (j : Nat) (hj : L[j]? = some (i, .int x)) (h : V w M C k n (pc + 2) L (.int x :: st) ws) : V w M C k n pc L st ws :=
  fun p e s m args below meth c A H locs ls o E hP hD hS hl => lv_iload o.1 o.2.1 hd (lv_at hl j hj) (h p e s m args below meth c A H locs ls o E hP hD hS hl)
theorem V_lload_n {i : Fin 4} {x : Int64} (hd : vdec M pc (.lload_n i) 1) (j : Nat) (hj : L[j]? = some (i.val, .long x)) (h : V w M C k n (pc + 1) L (.long x :: st) ws) : V w M C k n pc L st ws :=
  fun p e s m args below meth c A H locs ls o E hP hD hS hl => lv_lload_n o.1 o.2.1 hd rfl (lv_at hl j hj) (h p e s m args below meth c A H locs ls o E hP hD hS hl)
theorem V_lload {i : Nat} {x : Int64} (hd : vdec M pc (.lload i) 2) (j : Nat) (hj : L[j]? = some (i, .long x)) (h : V w M C k n (pc + 2) L (.long x :: st) ws) : V w M C k n pc L st ws :=
  fun p e s m args below meth c A H locs ls o E hP hD hS hl => lv_lload o.1 o.2.1 hd (lv_at hl j hj) (h p e s m args below meth c A H locs ls o E hP hD hS hl)
theorem V_aload_n {i : Fin 4} {x : Nat} (hd : vdec M pc (.aload_n i) 1) (j : Nat) (hj : L[j]? = some (i.val, .ref x)) (h : V w M C k n (pc + 1) L (.ref x :: st) ws) : V w M C k n pc L st ws :=
  fun p e s m args below meth c A H locs ls o E hP hD hS hl => lv_aload_n o.1 o.2.1 hd rfl (lv_at hl j hj) (h p e s m args below meth c A H locs ls o E hP hD hS hl)
theorem V_aload {i : Nat} {x : Nat} (hd : vdec M pc (.aload i) 2) (j : Nat) (hj : L[j]? = some (i, .ref x)) (h : V w M C k n (pc + 2) L (.ref x :: st) ws) : V w M C k n pc L st ws :=
  fun p e s m args below meth c A H locs ls o E hP hD hS hl => lv_aload o.1 o.2.1 hd (lv_at hl j hj) (h p e s m args below meth c A H locs ls o E hP hD hS hl)
theorem V_istore_n {i : Fin 4} {x : Int32} {L' : List (Nat × Value)} (hd : vdec M pc (.istore_n i) 1) (hn : Nat.blt i.val M.2.2.1 = true) (hi : lset i.val (.int x) L = L') (h : V w M C k n (pc + 1) L' st ws) : V w M C k n pc L (.int x :: st) ws :=
  fun p e s m args below meth c A H locs ls o E hP hD hS hl => lv_istore_n o.1 o.2.1 hd rfl hl (Nat.le_of_ble_eq_true hn) rfl (fun ls hl => h p e s m args below meth c A H locs ls o E hP hD hS (hi ▸ lv_has_lset hl))
theorem V_istore {i : Nat} {x : Int32} {L' : List (Nat × Value)} (hd : vdec M pc (.istore i) 2) (hn : Nat.blt i M.2.2.1 = true) (hi : lset i (.int x) L = L') (h : V w M C k n (pc + 2) L' st ws) : V w M C k n pc L (.int x :: st) ws :=
  fun p e s m args below meth c A H locs ls o E hP hD hS hl => lv_istore o.1 o.2.1 hd hl (Nat.le_of_ble_eq_true hn) rfl (fun ls hl => h p e s m args below meth c A H locs ls o E hP hD hS (hi ▸ lv_has_lset hl))
theorem V_astore_n {i : Fin 4} {x : Nat} {L' : List (Nat × Value)} (hd : vdec M pc (.astore_n i) 1) (hn : Nat.blt i.val M.2.2.1 = true) (hi : lset i.val (.ref x) L = L') (h : V w M C k n (pc + 1) L' st ws) : V w M C k n pc L (.ref x :: st) ws :=
  fun p e s m args below meth c A H locs ls o E hP hD hS hl => lv_astore_n o.1 o.2.1 hd rfl hl (Nat.le_of_ble_eq_true hn) rfl (fun ls hl => h p e s m args below meth c A H locs ls o E hP hD hS (hi ▸ lv_has_lset hl))
theorem V_astore {i : Nat} {x : Nat} {L' : List (Nat × Value)} (hd : vdec M pc (.astore i) 2) (hn : Nat.blt i M.2.2.1 = true) (hi : lset i (.ref x) L = L') (h : V w M C k n (pc + 2) L' st ws) : V w M C k n pc L (.ref x :: st) ws :=
  fun p e s m args below meth c A H locs ls o E hP hD hS hl => lv_astore o.1 o.2.1 hd hl (Nat.le_of_ble_eq_true hn) rfl (fun ls hl => h p e s m args below meth c A H locs ls o E hP hD hS (hi ▸ lv_has_lset hl))
theorem V_iinc {i : Nat} {a : Int} {x : Int32} {L' : List (Nat × Value)} (v : Int32) (hd : vdec M pc (.iinc i a) 3) (j : Nat) (hj : L[j]? = some (i, .int x)) (hv : x + Int32.ofInt a = v) (hn : Nat.blt i M.2.2.1 = true) (hi : lset i (.int v) L = L') (h : V w M C k n (pc + 3) L' st ws) : V w M C k n pc L st ws :=
  fun p e s m args below meth c A H locs ls o E hP hD hS hl => lv_iinc o.1 o.2.1 hd hl hj hv (Nat.le_of_ble_eq_true hn) rfl (fun ls hl => h p e s m args below meth c A H locs ls o E hP hD hS (hi ▸ lv_has_lset hl))
theorem V_goto {off : Int} (tgt : Nat) (hd : vdec M pc (.goto off) 3) (ht : (pc : Int) + off = (tgt : Int)) (h : V w M C k n tgt L st ws) : V w M C k n pc L st ws :=
  fun p e s m args below meth c A H locs ls o E hP hD hS hl => lv_goto o.1 o.2.1 hd ht (h p e s m args below meth c A H locs ls o E hP hD hS hl)
theorem V_icmp_eq {x y : Int32} {off : Int} (tgt : Nat) (hd : vdec M pc (.if_icmp .eq off) 3) (ht : (pc : Int) + off = (tgt : Int)) (kt : x = y → V w M C k n tgt L st ws) (kf : ¬ (x = y) → V w M C k n (pc + 3) L st ws) : V w M C k n pc L (.int y :: .int x :: st) ws :=
  fun p e s m args below meth c A H locs ls o E hP hD hS hl => lv_icmp_eq o.1 o.2.1 hd ht (fun q => kt q p e s m args below meth c A H locs ls o E hP hD hS hl) (fun q => kf q p e s m args below meth c A H locs ls o E hP hD hS hl)
theorem V_icmp_eq_t {x y : Int32} {off : Int} (tgt : Nat) (hd : vdec M pc (.if_icmp .eq off) 3) (ht : (pc : Int) + off = (tgt : Int)) (c : x = y) (h : V w M C k n tgt L st ws) : V w M C k n pc L (.int y :: .int x :: st) ws := V_icmp_eq tgt hd ht (fun _ => h) (fun q => absurd c q)
theorem V_icmp_eq_f {x y : Int32} {off : Int} (tgt : Nat) (hd : vdec M pc (.if_icmp .eq off) 3) (ht : (pc : Int) + off = (tgt : Int)) (c : ¬ (x = y)) (h : V w M C k n (pc + 3) L st ws) : V w M C k n pc L (.int y :: .int x :: st) ws := V_icmp_eq tgt hd ht (fun q => absurd q c) (fun _ => h)
theorem V_if_eq {x : Int32} {off : Int} (tgt : Nat) (hd : vdec M pc (.ifCond .eq off) 3) (ht : (pc : Int) + off = (tgt : Int)) (kt : x = 0 → V w M C k n tgt L st ws) (kf : ¬ (x = 0) → V w M C k n (pc + 3) L st ws) : V w M C k n pc L (.int x :: st) ws :=
  fun p e s m args below meth c A H locs ls o E hP hD hS hl => lv_if_eq o.1 o.2.1 hd ht (fun q => kt q p e s m args below meth c A H locs ls o E hP hD hS hl) (fun q => kf q p e s m args below meth c A H locs ls o E hP hD hS hl)
theorem V_if_eq_t {x : Int32} {off : Int} (tgt : Nat) (hd : vdec M pc (.ifCond .eq off) 3) (ht : (pc : Int) + off = (tgt : Int)) (c : x = 0) (h : V w M C k n tgt L st ws) : V w M C k n pc L (.int x :: st) ws := V_if_eq tgt hd ht (fun _ => h) (fun q => absurd c q)
theorem V_if_eq_f {x : Int32} {off : Int} (tgt : Nat) (hd : vdec M pc (.ifCond .eq off) 3) (ht : (pc : Int) + off = (tgt : Int)) (c : ¬ (x = 0)) (h : V w M C k n (pc + 3) L st ws) : V w M C k n pc L (.int x :: st) ws := V_if_eq tgt hd ht (fun q => absurd q c) (fun _ => h)
theorem V_icmp_ne {x y : Int32} {off : Int} (tgt : Nat) (hd : vdec M pc (.if_icmp .ne off) 3) (ht : (pc : Int) + off = (tgt : Int)) (kt : ¬ x = y → V w M C k n tgt L st ws) (kf : x = y → V w M C k n (pc + 3) L st ws) : V w M C k n pc L (.int y :: .int x :: st) ws :=
  fun p e s m args below meth c A H locs ls o E hP hD hS hl => lv_icmp_ne o.1 o.2.1 hd ht (fun q => kt q p e s m args below meth c A H locs ls o E hP hD hS hl) (fun q => kf q p e s m args below meth c A H locs ls o E hP hD hS hl)
theorem V_icmp_ne_t {x y : Int32} {off : Int} (tgt : Nat) (hd : vdec M pc (.if_icmp .ne off) 3) (ht : (pc : Int) + off = (tgt : Int)) (c : ¬ x = y) (h : V w M C k n tgt L st ws) : V w M C k n pc L (.int y :: .int x :: st) ws := V_icmp_ne tgt hd ht (fun _ => h) (fun q => absurd q c)
theorem V_icmp_ne_f {x y : Int32} {off : Int} (tgt : Nat) (hd : vdec M pc (.if_icmp .ne off) 3) (ht : (pc : Int) + off = (tgt : Int)) (c : x = y) (h : V w M C k n (pc + 3) L st ws) : V w M C k n pc L (.int y :: .int x :: st) ws := V_icmp_ne tgt hd ht (fun q => absurd c q) (fun _ => h)
theorem V_if_ne {x : Int32} {off : Int} (tgt : Nat) (hd : vdec M pc (.ifCond .ne off) 3) (ht : (pc : Int) + off = (tgt : Int)) (kt : ¬ x = 0 → V w M C k n tgt L st ws) (kf : x = 0 → V w M C k n (pc + 3) L st ws) : V w M C k n pc L (.int x :: st) ws :=
  fun p e s m args below meth c A H locs ls o E hP hD hS hl => lv_if_ne o.1 o.2.1 hd ht (fun q => kt q p e s m args below meth c A H locs ls o E hP hD hS hl) (fun q => kf q p e s m args below meth c A H locs ls o E hP hD hS hl)
theorem V_if_ne_t {x : Int32} {off : Int} (tgt : Nat) (hd : vdec M pc (.ifCond .ne off) 3) (ht : (pc : Int) + off = (tgt : Int)) (c : ¬ x = 0) (h : V w M C k n tgt L st ws) : V w M C k n pc L (.int x :: st) ws := V_if_ne tgt hd ht (fun _ => h) (fun q => absurd q c)
theorem V_if_ne_f {x : Int32} {off : Int} (tgt : Nat) (hd : vdec M pc (.ifCond .ne off) 3) (ht : (pc : Int) + off = (tgt : Int)) (c : x = 0) (h : V w M C k n (pc + 3) L st ws) : V w M C k n pc L (.int x :: st) ws := V_if_ne tgt hd ht (fun q => absurd c q) (fun _ => h)
theorem V_icmp_lt {x y : Int32} {off : Int} (tgt : Nat) (hd : vdec M pc (.if_icmp .lt off) 3) (ht : (pc : Int) + off = (tgt : Int)) (kt : x < y → V w M C k n tgt L st ws) (kf : ¬ (x < y) → V w M C k n (pc + 3) L st ws) : V w M C k n pc L (.int y :: .int x :: st) ws :=
  fun p e s m args below meth c A H locs ls o E hP hD hS hl => lv_icmp_lt o.1 o.2.1 hd ht (fun q => kt q p e s m args below meth c A H locs ls o E hP hD hS hl) (fun q => kf q p e s m args below meth c A H locs ls o E hP hD hS hl)
theorem V_icmp_lt_t {x y : Int32} {off : Int} (tgt : Nat) (hd : vdec M pc (.if_icmp .lt off) 3) (ht : (pc : Int) + off = (tgt : Int)) (c : x < y) (h : V w M C k n tgt L st ws) : V w M C k n pc L (.int y :: .int x :: st) ws := V_icmp_lt tgt hd ht (fun _ => h) (fun q => absurd c q)
theorem V_icmp_lt_f {x y : Int32} {off : Int} (tgt : Nat) (hd : vdec M pc (.if_icmp .lt off) 3) (ht : (pc : Int) + off = (tgt : Int)) (c : ¬ (x < y)) (h : V w M C k n (pc + 3) L st ws) : V w M C k n pc L (.int y :: .int x :: st) ws := V_icmp_lt tgt hd ht (fun q => absurd q c) (fun _ => h)
theorem V_if_lt {x : Int32} {off : Int} (tgt : Nat) (hd : vdec M pc (.ifCond .lt off) 3) (ht : (pc : Int) + off = (tgt : Int)) (kt : x < 0 → V w M C k n tgt L st ws) (kf : ¬ (x < 0) → V w M C k n (pc + 3) L st ws) : V w M C k n pc L (.int x :: st) ws :=
  fun p e s m args below meth c A H locs ls o E hP hD hS hl => lv_if_lt o.1 o.2.1 hd ht (fun q => kt q p e s m args below meth c A H locs ls o E hP hD hS hl) (fun q => kf q p e s m args below meth c A H locs ls o E hP hD hS hl)
theorem V_if_lt_t {x : Int32} {off : Int} (tgt : Nat) (hd : vdec M pc (.ifCond .lt off) 3) (ht : (pc : Int) + off = (tgt : Int)) (c : x < 0) (h : V w M C k n tgt L st ws) : V w M C k n pc L (.int x :: st) ws := V_if_lt tgt hd ht (fun _ => h) (fun q => absurd c q)
theorem V_if_lt_f {x : Int32} {off : Int} (tgt : Nat) (hd : vdec M pc (.ifCond .lt off) 3) (ht : (pc : Int) + off = (tgt : Int)) (c : ¬ (x < 0)) (h : V w M C k n (pc + 3) L st ws) : V w M C k n pc L (.int x :: st) ws := V_if_lt tgt hd ht (fun q => absurd q c) (fun _ => h)
theorem V_icmp_ge {x y : Int32} {off : Int} (tgt : Nat) (hd : vdec M pc (.if_icmp .ge off) 3) (ht : (pc : Int) + off = (tgt : Int)) (kt : y ≤ x → V w M C k n tgt L st ws) (kf : ¬ (y ≤ x) → V w M C k n (pc + 3) L st ws) : V w M C k n pc L (.int y :: .int x :: st) ws :=
  fun p e s m args below meth c A H locs ls o E hP hD hS hl => lv_icmp_ge o.1 o.2.1 hd ht (fun q => kt q p e s m args below meth c A H locs ls o E hP hD hS hl) (fun q => kf q p e s m args below meth c A H locs ls o E hP hD hS hl)
theorem V_icmp_ge_t {x y : Int32} {off : Int} (tgt : Nat) (hd : vdec M pc (.if_icmp .ge off) 3) (ht : (pc : Int) + off = (tgt : Int)) (c : y ≤ x) (h : V w M C k n tgt L st ws) : V w M C k n pc L (.int y :: .int x :: st) ws := V_icmp_ge tgt hd ht (fun _ => h) (fun q => absurd c q)
theorem V_icmp_ge_f {x y : Int32} {off : Int} (tgt : Nat) (hd : vdec M pc (.if_icmp .ge off) 3) (ht : (pc : Int) + off = (tgt : Int)) (c : ¬ (y ≤ x)) (h : V w M C k n (pc + 3) L st ws) : V w M C k n pc L (.int y :: .int x :: st) ws := V_icmp_ge tgt hd ht (fun q => absurd q c) (fun _ => h)
theorem V_if_ge {x : Int32} {off : Int} (tgt : Nat) (hd : vdec M pc (.ifCond .ge off) 3) (ht : (pc : Int) + off = (tgt : Int)) (kt : 0 ≤ x → V w M C k n tgt L st ws) (kf : ¬ (0 ≤ x) → V w M C k n (pc + 3) L st ws) : V w M C k n pc L (.int x :: st) ws :=
  fun p e s m args below meth c A H locs ls o E hP hD hS hl => lv_if_ge o.1 o.2.1 hd ht (fun q => kt q p e s m args below meth c A H locs ls o E hP hD hS hl) (fun q => kf q p e s m args below meth c A H locs ls o E hP hD hS hl)
theorem V_if_ge_t {x : Int32} {off : Int} (tgt : Nat) (hd : vdec M pc (.ifCond .ge off) 3) (ht : (pc : Int) + off = (tgt : Int)) (c : 0 ≤ x) (h : V w M C k n tgt L st ws) : V w M C k n pc L (.int x :: st) ws := V_if_ge tgt hd ht (fun _ => h) (fun q => absurd c q)
theorem V_if_ge_f {x : Int32} {off : Int} (tgt : Nat) (hd : vdec M pc (.ifCond .ge off) 3) (ht : (pc : Int) + off = (tgt : Int)) (c : ¬ (0 ≤ x)) (h : V w M C k n (pc + 3) L st ws) : V w M C k n pc L (.int x :: st) ws := V_if_ge tgt hd ht (fun q => absurd q c) (fun _ => h)
theorem V_icmp_gt {x y : Int32} {off : Int} (tgt : Nat) (hd : vdec M pc (.if_icmp .gt off) 3) (ht : (pc : Int) + off = (tgt : Int)) (kt : y < x → V w M C k n tgt L st ws) (kf : ¬ (y < x) → V w M C k n (pc + 3) L st ws) : V w M C k n pc L (.int y :: .int x :: st) ws :=
  fun p e s m args below meth c A H locs ls o E hP hD hS hl => lv_icmp_gt o.1 o.2.1 hd ht (fun q => kt q p e s m args below meth c A H locs ls o E hP hD hS hl) (fun q => kf q p e s m args below meth c A H locs ls o E hP hD hS hl)
theorem V_icmp_gt_t {x y : Int32} {off : Int} (tgt : Nat) (hd : vdec M pc (.if_icmp .gt off) 3) (ht : (pc : Int) + off = (tgt : Int)) (c : y < x) (h : V w M C k n tgt L st ws) : V w M C k n pc L (.int y :: .int x :: st) ws := V_icmp_gt tgt hd ht (fun _ => h) (fun q => absurd c q)
theorem V_icmp_gt_f {x y : Int32} {off : Int} (tgt : Nat) (hd : vdec M pc (.if_icmp .gt off) 3) (ht : (pc : Int) + off = (tgt : Int)) (c : ¬ (y < x)) (h : V w M C k n (pc + 3) L st ws) : V w M C k n pc L (.int y :: .int x :: st) ws := V_icmp_gt tgt hd ht (fun q => absurd q c) (fun _ => h)
theorem V_if_gt {x : Int32} {off : Int} (tgt : Nat) (hd : vdec M pc (.ifCond .gt off) 3) (ht : (pc : Int) + off = (tgt : Int)) (kt : 0 < x → V w M C k n tgt L st ws) (kf : ¬ (0 < x) → V w M C k n (pc + 3) L st ws) : V w M C k n pc L (.int x :: st) ws :=
  fun p e s m args below meth c A H locs ls o E hP hD hS hl => lv_if_gt o.1 o.2.1 hd ht (fun q => kt q p e s m args below meth c A H locs ls o E hP hD hS hl) (fun q => kf q p e s m args below meth c A H locs ls o E hP hD hS hl)
theorem V_if_gt_t {x : Int32} {off : Int} (tgt : Nat) (hd : vdec M pc (.ifCond .gt off) 3) (ht : (pc : Int) + off = (tgt : Int)) (c : 0 < x) (h : V w M C k n tgt L st ws) : V w M C k n pc L (.int x :: st) ws := V_if_gt tgt hd ht (fun _ => h) (fun q => absurd c q)
theorem V_if_gt_f {x : Int32} {off : Int} (tgt : Nat) (hd : vdec M pc (.ifCond .gt off) 3) (ht : (pc : Int) + off = (tgt : Int)) (c : ¬ (0 < x)) (h : V w M C k n (pc + 3) L st ws) : V w M C k n pc L (.int x :: st) ws := V_if_gt tgt hd ht (fun q => absurd q c) (fun _ => h)
theorem V_icmp_le {x y : Int32} {off : Int} (tgt : Nat) (hd : vdec M pc (.if_icmp .le off) 3) (ht : (pc : Int) + off = (tgt : Int)) (kt : x ≤ y → V w M C k n tgt L st ws) (kf : ¬ (x ≤ y) → V w M C k n (pc + 3) L st ws) : V w M C k n pc L (.int y :: .int x :: st) ws :=
  fun p e s m args below meth c A H locs ls o E hP hD hS hl => lv_icmp_le o.1 o.2.1 hd ht (fun q => kt q p e s m args below meth c A H locs ls o E hP hD hS hl) (fun q => kf q p e s m args below meth c A H locs ls o E hP hD hS hl)
theorem V_icmp_le_t {x y : Int32} {off : Int} (tgt : Nat) (hd : vdec M pc (.if_icmp .le off) 3) (ht : (pc : Int) + off = (tgt : Int)) (c : x ≤ y) (h : V w M C k n tgt L st ws) : V w M C k n pc L (.int y :: .int x :: st) ws := V_icmp_le tgt hd ht (fun _ => h) (fun q => absurd c q)
theorem V_icmp_le_f {x y : Int32} {off : Int} (tgt : Nat) (hd : vdec M pc (.if_icmp .le off) 3) (ht : (pc : Int) + off = (tgt : Int)) (c : ¬ (x ≤ y)) (h : V w M C k n (pc + 3) L st ws) : V w M C k n pc L (.int y :: .int x :: st) ws := V_icmp_le tgt hd ht (fun q => absurd q c) (fun _ => h)
theorem V_if_le {x : Int32} {off : Int} (tgt : Nat) (hd : vdec M pc (.ifCond .le off) 3) (ht : (pc : Int) + off = (tgt : Int)) (kt : x ≤ 0 → V w M C k n tgt L st ws) (kf : ¬ (x ≤ 0) → V w M C k n (pc + 3) L st ws) : V w M C k n pc L (.int x :: st) ws :=
  fun p e s m args below meth c A H locs ls o E hP hD hS hl => lv_if_le o.1 o.2.1 hd ht (fun q => kt q p e s m args below meth c A H locs ls o E hP hD hS hl) (fun q => kf q p e s m args below meth c A H locs ls o E hP hD hS hl)
theorem V_if_le_t {x : Int32} {off : Int} (tgt : Nat) (hd : vdec M pc (.ifCond .le off) 3) (ht : (pc : Int) + off = (tgt : Int)) (c : x ≤ 0) (h : V w M C k n tgt L st ws) : V w M C k n pc L (.int x :: st) ws := V_if_le tgt hd ht (fun _ => h) (fun q => absurd c q)
theorem V_if_le_f {x : Int32} {off : Int} (tgt : Nat) (hd : vdec M pc (.ifCond .le off) 3) (ht : (pc : Int) + off = (tgt : Int)) (c : ¬ (x ≤ 0)) (h : V w M C k n (pc + 3) L st ws) : V w M C k n pc L (.int x :: st) ws := V_if_le tgt hd ht (fun q => absurd q c) (fun _ => h)
theorem V_ifeq_b {b : Bool} {off : Int} (tgt : Nat) (hd : vdec M pc (.ifCond .eq off) 3) (ht : (pc : Int) + off = (tgt : Int)) (kt : b = false → V w M C k n tgt L st ws) (kf : b = true → V w M C k n (pc + 3) L st ws) : V w M C k n pc L (.int (bi b) :: st) ws :=
  V_if_eq tgt hd ht (fun q => kt (by cases b with | true => exact absurd q (by decide) | false => rfl)) (fun q => kf (by cases b with | true => rfl | false => exact absurd rfl q))
theorem V_ifne_b {b : Bool} {off : Int} (tgt : Nat) (hd : vdec M pc (.ifCond .ne off) 3) (ht : (pc : Int) + off = (tgt : Int)) (kt : b = true → V w M C k n tgt L st ws) (kf : b = false → V w M C k n (pc + 3) L st ws) : V w M C k n pc L (.int (bi b) :: st) ws :=
  V_if_ne tgt hd ht (fun q => kt (by cases b with | true => rfl | false => exact absurd rfl q)) (fun q => kf (by cases b with | true => exact absurd q (by decide) | false => rfl))
theorem V_ifnull {x : Nat} {off : Int} (hd : vdec M pc (.ifnull off) 3) (h : V w M C k n (pc + 3) L st ws) : V w M C k n pc L (.ref x :: st) ws :=
  fun p e s m args below meth c A H locs ls o E hP hD hS hl => lv_ifnull o.1 o.2.1 hd (h p e s m args below meth c A H locs ls o E hP hD hS hl)
theorem V_ifnullN {off : Int} (tgt : Nat) (hd : vdec M pc (.ifnull off) 3) (ht : (pc : Int) + off = (tgt : Int)) (h : V w M C k n tgt L st ws) : V w M C k n pc L (.null :: st) ws :=
  fun p e s m args below meth c A H locs ls o E hP hD hS hl => lv_ifnullN o.1 o.2.1 hd ht (h p e s m args below meth c A H locs ls o E hP hD hS hl)
theorem V_ifnonnull {x : Nat} {off : Int} (tgt : Nat) (hd : vdec M pc (.ifnonnull off) 3) (ht : (pc : Int) + off = (tgt : Int)) (h : V w M C k n tgt L st ws) : V w M C k n pc L (.ref x :: st) ws :=
  fun p e s m args below meth c A H locs ls o E hP hD hS hl => lv_ifnonnull o.1 o.2.1 hd ht (h p e s m args below meth c A H locs ls o E hP hD hS hl)
theorem V_ifnonnullN {off : Int} (hd : vdec M pc (.ifnonnull off) 3) (h : V w M C k n (pc + 3) L st ws) : V w M C k n pc L (.null :: st) ws :=
  fun p e s m args below meth c A H locs ls o E hP hD hS hl => lv_ifnonnullN o.1 o.2.1 hd (h p e s m args below meth c A H locs ls o E hP hD hS hl)
theorem V_tabIn {dflt lo hi : Int} {offs : Array Int} {len : Nat} {x : Int32} {off : Int} (tgt : Nat) (hd : vdec M pc (.tableswitch dflt lo hi offs) len) (h1 : ¬ x.toInt < lo) (h2 : ¬ hi < x.toInt) (ho : offs[(x.toInt - lo).toNat]? = some off) (ht : (pc : Int) + off = (tgt : Int)) (h : V w M C k n tgt L st ws) : V w M C k n pc L (.int x :: st) ws :=
  fun p e s m args below meth c A H locs ls o E hP hD hS hl => lv_tableIn o.1 o.2.1 hd h1 h2 ho ht (h p e s m args below meth c A H locs ls o E hP hD hS hl)
theorem V_tabOut {dflt lo hi : Int} {offs : Array Int} {len : Nat} {x : Int32} (tgt : Nat) (hd : vdec M pc (.tableswitch dflt lo hi offs) len) (hx : x.toInt < lo ∨ hi < x.toInt) (ht : (pc : Int) + dflt = (tgt : Int)) (h : V w M C k n tgt L st ws) : V w M C k n pc L (.int x :: st) ws :=
  fun p e s m args below meth c A H locs ls o E hP hD hS hl => lv_tableOut o.1 o.2.1 hd hx ht (h p e s m args below meth c A H locs ls o E hP hD hS hl)
theorem V_ldc {i : Nat} {v : Int32} (hd : vdec M pc (.ldc i) 2) (hc : Cond.constant M.1.cls i v ∈ TT) (h : V w M C k n (pc + 2) L (.int v :: st) ws) : V w M C k n pc L st ws :=
  fun p e s m args below meth c A H locs ls o E hP hD hS hl => lv_ldc o.1 o.2.1 o.2.2.2.2.1 (o.2.2.2.2.2.1 _ hc) hd (h p e s m args below meth c A H locs ls o E hP hD hS hl)
theorem V_ldc2 {i : Nat} {v : Int64} (hd : vdec M pc (.ldc2_w i) 3) (hc : Cond.constantLong M.1.cls i v ∈ TT) (h : V w M C k n (pc + 3) L (.long v :: st) ws) : V w M C k n pc L st ws :=
  fun p e s m args below meth c A H locs ls o E hP hD hS hl => lv_ldc2 o.1 o.2.1 o.2.2.2.2.1 (o.2.2.2.2.2.1 _ hc) hd (h p e s m args below meth c A H locs ls o E hP hD hS hl)
theorem V_ldcS {i j : Nat} {tx : String} (hd : vdec M pc (.ldc i) 2) (hc : (M.1.cls, i, tx, j) ∈ vRefs) (h : V w M C k n (pc + 2) L (.ref (w.2.2.1 j) :: st) ws) : V w M C k n pc L st ws :=
  fun p e s m args below meth c A H locs ls o E hP hD hS hl => va_ldcS o.1 o.2.1 o.2.2.2.2.1 (o.2.2.2.2.2.2.2.2.1.2.1 _ hc) hd (h p e s m args below meth c A H locs ls o E hP hD hS hl)
/-- a field of a class of ours, as an instruction of a class names it -/
def vFd (own : String) (idx ci kf : Nat) : Prop := ∃ (C : String) (T : u_T) (N : Nat), vwCl[ci]? = some (C, T, N) ∧ (∀ x ∈ u_ws C T N, x ∈ TT) ∧ kf < N ∧ Cond.fieldLink own idx (T kf).1 (T kf).2.1 (T kf).2.2.1 ∈ TT
def vFp (own : String) (idx ci kf : Nat) (ty : FieldType) (fin : Bool) : Prop := ∃ (C : String) (T : u_T) (N : Nat) (ty0 : Nat → FieldType), vwCl[ci]? = some (C, T, N) ∧ (∀ x ∈ u_ws C T N, x ∈ TT) ∧ (∀ k, k < N → parseFieldDescriptor (T k).2.2.1 = some (ty0 k)) ∧ (∀ a, a < N → ∀ b, b < N → a ≠ b → (T a).2.1 ≠ (T b).2.1) ∧ kf < N ∧ Cond.fieldLink own idx (T kf).1 (T kf).2.1 (T kf).2.2.1 ∈ TT ∧ (T kf).2.2.2 = fin ∧ parseFieldDescriptor (T kf).2.2.1 = some ty ∧ (T kf).1 = own
theorem V_get {idx ci kf a : Nat} {fs : List Value} {v : Value} (hd : vdec M pc (.getfield idx) 3) (f : vFd M.1.cls idx ci kf) (q0 : Nat) (he : ws[q0]? = some (a, .inr (ci, fs))) (hv : fs[kf]? = some v) (h : V w M C k n (pc + 3) L (v :: st) ws) : V w M C k n pc L (.ref a :: st) ws := by
  obtain ⟨D, T, N, h1, h2, h3, h4⟩ := f
  exact fun p e s m args below meth c A H locs ls o E hP hD hS hl => va_get o.1 o.2.1 o.2.2.2.2.2.1 h2 o.2.2.2.2.1 o.2.2.2.2.2.2.2.1 hP q0 he h1 kf h3 (o.2.2.2.2.2.1 _ h4) (fun _ h9 => h9) hv hd (h p e s m args below meth c A H locs ls o E hP hD hS hl)
theorem V_put {idx ci kf a : Nat} {fs : List Value} {v : Value} {ty : FieldType} {ws' : va_W} (hd : vdec M pc (.putfield idx) 3) (f : vFp M.1.cls idx ci kf ty false) (q0 : Nat) (he : ws[q0]? = some (a, .inr (ci, fs))) (hl0 : Nat.blt kf fs.length = true) (hn : narrow ty v = v) (hf : fits ty v = true) (hw : ws.set q0 (a, .inr (ci, fs.set kf v)) = ws') (h : V w M C k n (pc + 3) L st ws') : V w M C k n pc L (v :: .ref a :: st) ws := by
  obtain ⟨D, T, N, ty0, h1, h2, h3, h4, h5, h6, h7, h8, h9⟩ := f
  exact fun p e s m args below meth c A H locs ls o E hP hD hS hl => va_put o.1 o.2.1 o.2.2.2.2.2.1 h2 ty0 h3 h4 o.2.2.2.2.1 o.2.2.2.2.2.2.2.1 hP hD hS q0 he h1 kf h5 (o.2.2.2.2.2.1 _ h6) (fun _ h9 => h9) h7 h8 hn hf (Nat.le_of_ble_eq_true hl0) hd (fun H locs hP hD hS => h p e s m args below meth c A H locs ls o E (hw ▸ hP) (hw ▸ hD) hS hl)
theorem V_putF {idx ci kf a : Nat} {fs : List Value} {v : Value} {ty : FieldType} {ws' : va_W} (hd : vdec M pc (.putfield idx) 3) (hin : M.1.name = "<init>") (f : vFp M.1.cls idx ci kf ty true) (q0 : Nat) (he : ws[q0]? = some (a, .inr (ci, fs))) (hl0 : Nat.blt kf fs.length = true) (hn : narrow ty v = v) (hf : fits ty v = true) (hw : ws.set q0 (a, .inr (ci, fs.set kf v)) = ws') (h : V w M C k n (pc + 3) L st ws') : V w M C k n pc L (v :: .ref a :: st) ws := by
  obtain ⟨D, T, N, ty0, h1, h2, h3, h4, h5, h6, h7, h8, h9⟩ := f
  exact fun p e s m args below meth c A H locs ls o E hP hD hS hl => va_putF o.1 o.2.1 o.2.2.2.2.2.1 h2 ty0 h3 h4 o.2.2.2.2.1 o.2.2.2.2.2.2.2.1 hP hD hS q0 he h1 kf h5 (o.2.2.2.2.2.1 _ h6) (fun _ h9 => h9) h7 (o.2.2.2.2.2.2.2.2.2.2.trans hin) h9 h8 hn hf (Nat.le_of_ble_eq_true hl0) hd (fun H locs hP hD hS => h p e s m args below meth c A H locs ls o E (hw ▸ hP) (hw ▸ hD) hS hl)
theorem v_in {i : Int32} {j N : Nat} (hi : i = nI j) (hj : j < N) (hN : Nat.ble N 1000000 = true) : vp_in i N ∧ i.toNatClampNeg = j := by
  have h1 : N ≤ 1000000 := Nat.le_of_ble_eq_true hN
  subst hi
  exact ⟨vp_in_nI hj (by omega), nI_clamp (by omega)⟩
theorem V_iald {a N : Nat} {f : Nat → Int32} {i : Int32} (hd : vdec M pc (.iaload) 1) (q0 : Nat) (he : ws[q0]? = some (a, .inl (vA w 0, N, .inl f))) (hN : Nat.ble N 1000000 = true) (j : Nat) (hi : i = nI j) (hj : j < N) (h : V w M C k n (pc + 1) L (.int (f j) :: st) ws) : V w M C k n pc L (.int i :: .ref a :: st) ws := by
  obtain ⟨h1, h2⟩ := v_in hi hj hN
  subst h2
  exact fun p e s m args below meth c A H locs ls o E hP hD hS hl => va_iald o.1 o.2.1 o.2.2.2.2.2.2.2.1 hP q0 0 he rfl h1 hd (h p e s m args below meth c A H locs ls o E hP hD hS hl)
theorem V_bald {a N : Nat} {f : Nat → Int32} {i : Int32} (hd : vdec M pc (.baload) 1) (q0 : Nat) (he : ws[q0]? = some (a, .inl (vA w 1, N, .inl f))) (hN : Nat.ble N 1000000 = true) (j : Nat) (hi : i = nI j) (hj : j < N) (h : V w M C k n (pc + 1) L (.int (f j) :: st) ws) : V w M C k n pc L (.int i :: .ref a :: st) ws := by
  obtain ⟨h1, h2⟩ := v_in hi hj hN
  subst h2
  exact fun p e s m args below meth c A H locs ls o E hP hD hS hl => va_bald o.1 o.2.1 o.2.2.2.2.2.2.2.1 hP q0 1 he rfl h1 hd (h p e s m args below meth c A H locs ls o E hP hD hS hl)
theorem V_lald {a N : Nat} {f : Nat → Int64} {i : Int32} (hd : vdec M pc (.laload) 1) (q0 : Nat) (he : ws[q0]? = some (a, .inl (vA w 2, N, .inr (.inl f)))) (hN : Nat.ble N 1000000 = true) (j : Nat) (hi : i = nI j) (hj : j < N) (h : V w M C k n (pc + 1) L (.long (f j) :: st) ws) : V w M C k n pc L (.int i :: .ref a :: st) ws := by
  obtain ⟨h1, h2⟩ := v_in hi hj hN
  subst h2
  exact fun p e s m args below meth c A H locs ls o E hP hD hS hl => va_lald o.1 o.2.1 o.2.2.2.2.2.2.2.1 hP q0 2 he rfl h1 hd (h p e s m args below meth c A H locs ls o E hP hD hS hl)
theorem V_iast {a N : Nat} {f : Nat → Int32} {i : Int32} {x : Int32} {ws' : va_W} (hd : vdec M pc (.iastore) 1) (q0 : Nat) (he : ws[q0]? = some (a, .inl (vA w 0, N, .inl f))) (hN : Nat.ble N 1000000 = true) (j : Nat) (hi : i = nI j) (hj : j < N) (hw : ws.set q0 (a, .inl (vA w 0, N, .inl (upd f j x))) = ws') (h : V w M C k n (pc + 1) L st ws') : V w M C k n pc L (.int x :: .int i :: .ref a :: st) ws := by
  obtain ⟨h1, h2⟩ := v_in hi hj hN
  subst h2
  exact fun p e s m args below meth c A H locs ls o E hP hD hS hl => va_iast o.1 o.2.1 o.2.2.2.2.2.2.2.1 hP hD hS q0 0 he rfl h1 hd (fun H locs hP hD hS => h p e s m args below meth c A H locs ls o E (hw ▸ hP) (hw ▸ hD) hS hl)
theorem V_bast {a N : Nat} {f : Nat → Int32} {i : Int32} {x : Int32} {ws' : va_W} (hd : vdec M pc (.bastore) 1) (q0 : Nat) (he : ws[q0]? = some (a, .inl (vA w 1, N, .inl f))) (hN : Nat.ble N 1000000 = true) (j : Nat) (hi : i = nI j) (hj : j < N) (hw : ws.set q0 (a, .inl (vA w 1, N, .inl (upd f j (vp_nar .byte x)))) = ws') (h : V w M C k n (pc + 1) L st ws') : V w M C k n pc L (.int x :: .int i :: .ref a :: st) ws := by
  obtain ⟨h1, h2⟩ := v_in hi hj hN
  subst h2
  exact fun p e s m args below meth c A H locs ls o E hP hD hS hl => va_bast o.1 o.2.1 o.2.2.2.2.2.2.2.1 hP hD hS q0 1 he rfl h1 hd (fun H locs hP hD hS => h p e s m args below meth c A H locs ls o E (hw ▸ hP) (hw ▸ hD) hS hl)
theorem V_last {a N : Nat} {f : Nat → Int64} {i : Int32} {x : Int64} {ws' : va_W} (hd : vdec M pc (.lastore) 1) (q0 : Nat) (he : ws[q0]? = some (a, .inl (vA w 2, N, .inr (.inl f)))) (hN : Nat.ble N 1000000 = true) (j : Nat) (hi : i = nI j) (hj : j < N) (hw : ws.set q0 (a, .inl (vA w 2, N, .inr (.inl (vp_updL f j x)))) = ws') (h : V w M C k n (pc + 1) L st ws') : V w M C k n pc L (.long x :: .int i :: .ref a :: st) ws := by
  obtain ⟨h1, h2⟩ := v_in hi hj hN
  subst h2
  exact fun p e s m args below meth c A H locs ls o E hP hD hS hl => va_last o.1 o.2.1 o.2.2.2.2.2.2.2.1 hP hD hS q0 2 he rfl h1 hd (fun H locs hP hD hS => h p e s m args below meth c A H locs ls o E (hw ▸ hP) (hw ▸ hD) hS hl)
theorem V_aald {a N : Nat} {f : Nat → Option Nat} {i : Int32} (hd : vdec M pc (.aaload) 1) (q0 : Nat) (he : ws[q0]? = some (a, .inl (vA w 3, N, .inr (.inr (.inr (.inr f)))))) (hN : Nat.ble N 1000000 = true) (j : Nat) (hi : i = nI j) (hj : j < N) (h : V w M C k n (pc + 1) L (va_rf (f j) :: st) ws) : V w M C k n pc L (.int i :: .ref a :: st) ws := by
  obtain ⟨h1, h2⟩ := v_in hi hj hN
  subst h2
  exact fun p e s m args below meth c A H locs ls o E hP hD hS hl => va_aldq o.1 o.2.1 o.2.2.2.2.2.2.2.1 hP q0 3 he rfl h1 hd (h p e s m args below meth c A H locs ls o E hP hD hS hl)
section VR
variable {d mc ms : Nat} {Q : Option Value → va_W → Prop}
theorem v_end {A : Nat → Prop} {s : State} {H : Heap} {locs : List Loc} {ws : va_W} {r : Option Value} {args : Array Value} (hP : va_P (vD w) vwCl ws H) (hD : va_D A ws) (hS : va_S A s.heap H locs) (hq : Q r ws) : ∀ t : State, t.heap = H → s.WarmedH t.vm → vQ w Q A args s (.returned r) t :=
  fun t ht _ => ⟨⟨r, ws, rfl, hq, by rw [ht]; exact hP, hD⟩, hS.F ht⟩
theorem V_iret {x : Int32} (hd : vdec M pc (.ireturn) 1) (hr : M.2.2.2 = some .int) (hk : k ≤ mc) (hn : n ≤ ms) (hq : Q (some (.int x)) ws) : V w M (vc w d mc ms Q) k n pc L [.int x] ws :=
  fun p e s m args below meth c A H locs ls o E hP hD hS hl => W.widen (k := mc) (n := ms) hk hn (W.iret o.1 o.2.1 (o.2.2.1.trans hr) (v_end hP hD hS hq) hS.2.2 hd o.2.2.2.2.2.2.1)
theorem V_zret {x : Int32} {ty : FieldType} (hd : vdec M pc (.ireturn) 1) (hr : M.2.2.2 = some ty) (hx : narrow ty (.int x) = .int x) (hk : k ≤ mc) (hn : n ≤ ms) (hq : Q (some (.int x)) ws) : V w M (vc w d mc ms Q) k n pc L [.int x] ws :=
  fun p e s m args below meth c A H locs ls o E hP hD hS hl => W.widen (k := mc) (n := ms) hk hn (W.zret o.1 o.2.1 (o.2.2.1.trans hr) hx (v_end hP hD hS hq) hS.2.2 hd o.2.2.2.2.2.2.1)
theorem V_lret {x : Int64} (hd : vdec M pc (.lreturn) 1) (hr : M.2.2.2 = some .long) (hk : k ≤ mc) (hn : n ≤ ms) (hq : Q (some (.long x)) ws) : V w M (vc w d mc ms Q) k n pc L [.long x] ws :=
  fun p e s m args below meth c A H locs ls o E hP hD hS hl => W.widen (k := mc) (n := ms) hk hn (W.lret o.1 o.2.1 (o.2.2.1.trans hr) (v_end hP hD hS hq) hS.2.2 hd o.2.2.2.2.2.2.1)
theorem V_aret {v : Value} {rt : FieldType} (hd : vdec M pc (.areturn) 1) (hr : M.2.2.2 = some rt) (hrt : (∃ n, rt = .object n) ∨ ∃ t, rt = .array t) (hv : v = .null ∨ ∃ a, v = .ref a) (hk : k ≤ mc) (hn : n ≤ ms) (hq : Q (some v) ws) : V w M (vc w d mc ms Q) k n pc L [v] ws :=
  fun p e s m args below meth c A H locs ls o E hP hD hS hl => W.widen (k := mc) (n := ms) hk hn (W.aret o.1 o.2.1 (o.2.2.1.trans hr) hrt hv (v_end hP hD hS hq) hS.2.2 hd o.2.2.2.2.2.2.1)
theorem V_vret (hd : vdec M pc (.return_) 1) (hr : M.2.2.2 = none) (hk : k ≤ mc) (hn : n ≤ ms) (hq : Q none ws) : V w M (vc w d mc ms Q) k n pc L [] ws :=
  fun p e s m args below meth c A H locs ls o E hP hD hS hl => W.widen (k := mc) (n := ms) hk hn (W.vret o.1 o.2.1 (o.2.2.1.trans hr) (v_end hP hD hS hq) hS.2.2 hd o.2.2.2.2.2.2.1)
theorem V_bret {b : Bool} (hd : vdec M pc (.ireturn) 1) (hr : M.2.2.2 = some .boolean) (hk : k ≤ mc) (hn : n ≤ ms) (hq : Q (some (.int (bi b))) ws) : V w M (vc w d mc ms Q) k n pc L [.int (bi b)] ws :=
  V_zret hd hr (by cases b <;> rfl) hk hn hq
end VR
end VL
