section
/-! 03: new T[n][m]: the section of NAMES (its rows va_mna and before it), over a law of my own for the instruction: nothing here is out of the library's laws of JDK members -/
/-! arrays of arrays: NAMES' rows speak of va_AOA -/
def va_AOA (t : FieldType) (U : State) : Prop := (Cond.arrayOver (.array t)).before #[] U = true
theorem va_AOA.of {t : FieldType} {A : Array Value} {U : State} (h : (Cond.arrayOver (.array t)).before A U = true) : va_AOA t U := h
theorem va_AOA.use {t : FieldType} {A : Array Value} {U : State} (h : va_AOA t U) : (Cond.arrayOver (.array t)).before A U = true := h
/-- what the word says, as one chain of questions -/
def vo_ask (t : FieldType) (vm : Vm) : Option Bool :=
  (vm.findClass (FieldType.array t).toString).bind fun comp => (vm.classes.findIdx? fun (x : Class) => match x.kind with | .array component _ => component == comp | _ => false).bind fun c => (vm.classes[c]?).map fun (k : Class) => match k.kind with
    | .array _ ty => decide (ty = FieldType.array t) && decide (vm.findClass ("[" ++ (FieldType.array t).toString) = some c)
    | _ => false
theorem vo_iff {t : FieldType} {s : State} : va_AOA t s ↔ vo_ask t s.vm = some true := by
  show ((vo_ask t s.vm) == some true) = true ↔ _
  exact beq_iff_eq
theorem vo_spec {t : FieldType} {s : State} (h : va_AOA t s) :
    ∃ comp c k, s.vm.findClass (FieldType.array t).toString = some comp ∧ (s.vm.classes.findIdx? fun x => match x.kind with | .array component _ => component == comp | _ => false) = some c ∧ s.vm.classes[c]? = some k ∧ k.kind = .array comp (.array t) ∧ s.vm.findClass ("[" ++ (FieldType.array t).toString) = some c := by
  obtain ⟨comp, h1, h⟩ := Option.bind_eq_some_iff.mp (vo_iff.mp h)
  obtain ⟨c, h2, h⟩ := Option.bind_eq_some_iff.mp h
  obtain ⟨k, h3, h⟩ := Option.map_eq_some_iff.mp h
  obtain ⟨h4, h5, -⟩ := Array.findIdx?_eq_some_iff_getElem.mp h2
  have h6 : s.vm.classes[c] = k := Option.some.inj ((Array.getElem?_eq_getElem h4).symm.trans h3)
  rw [h6] at h5
  cases hq : k.kind with
  | array cm ty =>
    rw [hq] at h h5
    have h7 := Bool.and_eq_true_iff.mp h
    have h8 : cm = comp := eq_of_beq h5
    have h9 : ty = FieldType.array t := of_decide_eq_true h7.1
    exact ⟨comp, c, k, h1, h2, h3, by rw [hq, h8, h9], of_decide_eq_true h7.2⟩
  | _ => rw [hq] at h; cases h
theorem va_AOA.moved {t : FieldType} {u U : State} (hvm : u.vm.Alike U.vm) (h : va_AOA t u) : va_AOA t U := by
  obtain ⟨comp, c, k, h1, h2, h3, h4, h5⟩ := vo_spec h
  obtain ⟨k', hk', he⟩ := hvm.2.2 _ _ h3
  refine vo_iff.mpr (Option.bind_eq_some_iff.mpr ⟨comp, by rw [hvm.findClass]; exact h1, Option.bind_eq_some_iff.mpr ⟨c, (hvm.findIdx?_eqK _ (fun _ => rfl)).trans h2, Option.map_eq_some_iff.mpr ⟨k', hk', ?_⟩⟩⟩)
  have hkind : k'.kind = .array comp (.array t) := by rw [he]; exact h4
  have hf : U.vm.findClass ("[" ++ (FieldType.array t).toString) = some c := by rw [hvm.findClass]; exact h5
  rw [hkind, hf]
  simp
/-! the instruction: the state behind i of the rows, closed: the outer array at the heap's old end, the rows behind it -/
def vz_in (cM : ClassId) (K : Nat) (v : Value) : Cell := { cls := cM, slots := Array.replicate K v, vm := .none }
def vz_out (cA : ClassId) (N b i : Nat) : Cell := arrV cA N (fun j => va_rf (if j < i then some (b + 1 + j) else none))
def vz_st (T : State) (cA cM : ClassId) (N K : Nat) (v : Value) (i : Nat) : State :=
  { T with heap := T.heap.push (vz_out cA N T.heap.size i) ++ Array.replicate i (vz_in cM K v), slotsUsed := T.slotsUsed + N + i * K }
theorem vz_in_size (cM : ClassId) (K : Nat) (v : Value) : (vz_in cM K v).slots.size = K := Array.size_replicate
theorem vz_out_size (cA : ClassId) (N b i : Nat) : (vz_out cA N b i).slots.size = N := arrV_size _ _ _
theorem vz_out_first (cA : ClassId) (N b : Nat) : ({ cls := cA, slots := Array.replicate N .null, vm := .none } : Cell) = vz_out cA N b 0 := by
  rw [arrV_new]
  refine congrArg (arrV cA N) (funext fun j => ?_)
  simp [va_rf]
theorem vz_out_next (cA : ClassId) (N b i : Nat) : (vz_out cA N b i).setSlot i (.ref (b + 1 + i)) = vz_out cA N b (i + 1) := by
  unfold vz_out
  rw [arrV_store]
  refine congrArg (arrV cA N) (funext fun j => ?_)
  show (if j = i then Value.ref (b + 1 + i) else va_rf (if j < i then some (b + 1 + j) else none)) = va_rf (if j < i + 1 then some (b + 1 + j) else none)
  rcases Nat.lt_trichotomy j i with q | q | q
  · simp [show ¬ j = i by omega, q, show j < i + 1 by omega]
  · subst q
    simp [va_rf]
  · simp [show ¬ j = i by omega, show ¬ j < i by omega, show ¬ j < i + 1 by omega]
theorem vz_arr {α : Type} (A : Array α) (x y z : α) (i : Nat) : ((A.push x ++ Array.replicate i z).push z).setIfInBounds A.size y = A.push y ++ Array.replicate (i + 1) z := by
  apply Array.ext_getElem?
  intro j
  simp only [Array.getElem?_setIfInBounds, Array.getElem?_push, Array.getElem?_append, Array.size_push, Array.size_append, Array.size_replicate, Array.getElem?_replicate]
  grind
section VZ
variable {p : Program} {l : Launch} {e : Env} {R : Room} {s T : State} {m : MethodId} {args : Array Value} {below : List Frame} {meth : Method} {c : Code} {locs : List Loc} {cells slots : Nat}
theorem vz_size (T : State) (cA cM : ClassId) (N K : Nat) (v : Value) (i : Nat) : (vz_st T cA cM N K v i).heap.size = T.heap.size + 1 + i := by
  show (T.heap.push _ ++ Array.replicate i _).size = _
  rw [Array.size_append, Array.size_push, Array.size_replicate]
theorem vz_lo (T : State) (cA cM : ClassId) (N K : Nat) (v : Value) (i : Nat) {x : Nat} (h : x < T.heap.size) : (vz_st T cA cM N K v i).heap[x]? = T.heap[x]? := by
  show (T.heap.push _ ++ Array.replicate i _)[x]? = _
  rw [Array.getElem?_append_left (by rw [Array.size_push]; omega), Array.getElem?_push, if_neg (Nat.ne_of_lt h)]
theorem vz_mid (T : State) (cA cM : ClassId) (N K : Nat) (v : Value) (i : Nat) : (vz_st T cA cM N K v i).heap[T.heap.size]? = some (vz_out cA N T.heap.size i) := by
  show (T.heap.push _ ++ Array.replicate i _)[T.heap.size]? = _
  rw [Array.getElem?_append_left (by rw [Array.size_push]; omega), Array.getElem?_push, if_pos rfl]
theorem vz_hi (T : State) (cA cM : ClassId) (N K : Nat) (v : Value) (i j : Nat) (h : j < i) : (vz_st T cA cM N K v i).heap[T.heap.size + 1 + j]? = some (vz_in cM K v) := by
  show (T.heap.push _ ++ Array.replicate i _)[T.heap.size + 1 + j]? = _
  rw [Array.getElem?_append_right (by rw [Array.size_push]; omega), Array.size_push, Array.getElem?_replicate, if_pos (by omega)]
theorem vz_top (T : State) (g : JFrame) (cA cM : ClassId) (N K : Nat) (v : Value) (i : Nat) : vz_st (T.setTop g) cA cM N K v i = (vz_st T cA cM N K v i).setTop g := rfl
theorem vz_first (T : State) (cA cM : ClassId) (N K : Nat) (v : Value) : T.pushCell (vz_out cA N T.heap.size 0) = vz_st T cA cM N K v 0 := by
  have e1 : T.heap.push (vz_out cA N T.heap.size 0) = T.heap.push (vz_out cA N T.heap.size 0) ++ Array.replicate 0 (vz_in cM K v) := by simp
  have e2 : T.slotsUsed + (vz_out cA N T.heap.size 0).slots.size = T.slotsUsed + N + 0 * K := by rw [vz_out_size, Nat.zero_mul, Nat.add_zero]
  show ({ T with heap := T.heap.push (vz_out cA N T.heap.size 0), slotsUsed := T.slotsUsed + (vz_out cA N T.heap.size 0).slots.size } : State) = _
  rw [e2]
  exact congrArg (fun q => ({ T with heap := q, slotsUsed := T.slotsUsed + N + 0 * K } : State)) e1
theorem vz_next (T : State) (cA cM : ClassId) (N K : Nat) (v : Value) (i : Nat) : ((vz_st T cA cM N K v i).pushCell (vz_in cM K v)).setCell T.heap.size (vz_out cA N T.heap.size (i + 1)) = vz_st T cA cM N K v (i + 1) := by
  have e1 := vz_arr T.heap (vz_out cA N T.heap.size i) (vz_out cA N T.heap.size (i + 1)) (vz_in cM K v) i
  have e2 : T.slotsUsed + N + i * K + (vz_in cM K v).slots.size = T.slotsUsed + N + (i + 1) * K := by rw [vz_in_size, Nat.succ_mul]; omega
  show ({ T with heap := ((T.heap.push (vz_out cA N T.heap.size i) ++ Array.replicate i (vz_in cM K v)).push (vz_in cM K v)).setIfInBounds T.heap.size (vz_out cA N T.heap.size (i + 1)), slotsUsed := T.slotsUsed + N + i * K + (vz_in cM K v).slots.size } : State) = _
  rw [e1, e2]
  rfl
theorem vz_cell (T : State) (cA cM : ClassId) (N K : Nat) (v : Value) (i : Nat) : ((vz_st T cA cM N K v i).pushCell (vz_in cM K v)).heap[T.heap.size]? = some (vz_out cA N T.heap.size i) := by
  rw [State.heap_pushCell, Array.getElem?_push, if_neg (by rw [vz_size]; omega)]
  exact vz_mid T cA cM N K v i
theorem vz_stand (X : Stand p l e R s m args below meth c T locs cells slots) (cA cM : ClassId) (N K : Nat) (v : Value) (i : Nat) : Stand p l e R s m args below meth c (vz_st T cA cM N K v i) locs (cells + 1 + i) (slots + N + i * K) := by
  induction i with
  | zero =>
    have h := X.pushed (vz_out cA N T.heap.size 0)
    rw [vz_out_size, vz_first T cA cM N K v] at h
    rw [Nat.zero_mul]
    exact h
  | succ i ih =>
    have h := (ih.pushed (vz_in cM K v)).stored (vz_cell T cA cM N K v i) i (.ref (T.heap.size + 1 + i))
    rw [vz_out_next, vz_next, vz_in_size] at h
    rw [show slots + N + (i + 1) * K = slots + N + i * K + K by rw [Nat.succ_mul]; omega]
    exact h.dropFresh (fun x hx => by rw [List.mem_singleton.mp hx]; exact X.heapGrown)
end VZ
section VZW
variable {E : CtlPost} {e : Env} {s : State}
/-- a loop over i, i + 1 .. whose states are known ahead -/
theorem vz_loop {f : Nat → PUnit → Sem (ForInStep PUnit)} {st : Nat → State} {N : Nat} {Q : PUnit → Pre}
    (hf : ∀ i, i < N → ∀ (d : Bool) (acts : List Action) (Q' : ForInStep PUnit → Pre), (∀ d' acts', Q' (.yield PUnit.unit) d' acts' (st (i + 1))) → wp (f i PUnit.unit) Q' E e d acts (st i)) (hq : ∀ d' acts', Q PUnit.unit d' acts' (st N)) :
    ∀ (q i : Nat), i + q = N → ∀ (d : Bool) (acts : List Action), wp (forIn (List.range' i q) PUnit.unit f) Q E e d acts (st i) := by
  intro q
  induction q with
  | zero =>
    intro i h d acts
    have h0 : i = N := h
    subst h0
    simp only [List.range'_zero, List.forIn_nil, wp_pure']
    exact hq d acts
  | succ q ih =>
    intro i h d acts
    rw [List.range'_succ]
    simp only [List.forIn_cons, wp_bind']
    exact hf i (by omega) d acts _ (fun d' acts' => ih (i + 1) (by omega) d' acts')
theorem vz_wp1 {d : Bool} {acts : List Action} {cM cc : ClassId} {kM : Class} {ty : FieldType} {k : Int32} (h1 : s.vm.classes[cM]? = some kM) (h2 : kM.kind = .array cc ty) (h3 : ¬ k < 0) (h4 : ¬ k.toNatClampNeg > e.platform.arrayLengthLimit) (h5 : ¬ k.toNatClampNeg * componentBytes ty > e.platform.maxHeapBytes) (h6 : fits ty (defaultValue ty) = true) (h7 : s.heap.size < e.platform.maxCells) (h8 : s.slotsUsed + k.toNatClampNeg ≤ e.platform.maxSlots)
    {Q : Addr → Pre} (hq : ∀ acts', Q s.heap.size d acts' (s.pushCell (vz_in cM k.toNatClampNeg (defaultValue ty)))) : wp (Jvm.Op.multianewarray.make cM [k]) Q E e d acts s := by
  rw [Jvm.Op.multianewarray.make]
  simp only [wp_bind', Jvm.W.ite, h3, if_false, wp_pure', Jvm.W.theClass, h1, h2, Option.some.injEq, exists_eq_left']
  exact Jvm.W.newArray_of h1 h2 h4 h5 h7 h8 h6 hq
theorem vz_wp2 {d : Bool} {acts : List Action} {cA cM cc : ClassId} {kA kM : Class} {ty : FieldType} {n k : Int32} (a1 : s.vm.classes[cA]? = some kA) (a2 : kA.kind = .array cM (.array ty)) (b1 : s.vm.classes[cM]? = some kM) (b2 : kM.kind = .array cc ty) (hn : ¬ n < 0) (hk : ¬ k < 0)
    (l1 : ¬ n.toNatClampNeg > e.platform.arrayLengthLimit) (l2 : ¬ n.toNatClampNeg * componentBytes (.array ty) > e.platform.maxHeapBytes) (l3 : ¬ k.toNatClampNeg > e.platform.arrayLengthLimit) (l4 : ¬ k.toNatClampNeg * componentBytes ty > e.platform.maxHeapBytes) (hdf : fits ty (defaultValue ty) = true)
    (r1 : s.heap.size + 1 + n.toNatClampNeg ≤ e.platform.maxCells) (r2 : s.slotsUsed + n.toNatClampNeg + n.toNatClampNeg * k.toNatClampNeg ≤ e.platform.maxSlots)
    {Q : Addr → Pre} (hq : ∀ d' acts', Q s.heap.size d' acts' (vz_st s cA cM n.toNatClampNeg k.toNatClampNeg (defaultValue ty) n.toNatClampNeg)) : wp (Jvm.Op.multianewarray.make cA [n, k]) Q E e d acts s := by
  generalize hN : n.toNatClampNeg = N at l1 l2 r1 r2 hq
  have hz : ([k].find? (· < 0)) = none := by simp [hk]
  rw [Jvm.Op.multianewarray.make]
  simp only [wp_bind', Jvm.W.ite, hn, if_false, wp_pure', Jvm.W.theClass, a1, a2, Option.some.injEq, exists_eq_left', hN]
  refine Jvm.W.newArray_of a1 a2 l1 l2 (by omega) (by have := Nat.zero_le (N * k.toNatClampNeg); omega) rfl (fun acts1 => ?_)
  simp only [hz, ite_self, wp_bind', wp_pure']
  rw [Std.Legacy.Range.forIn_eq_forIn_range', vz_out_first cA N s.heap.size, vz_first s cA cM N k.toNatClampNeg (defaultValue ty)]
  have hsz : ([:N] : Std.Legacy.Range).size = N := by simp [Std.Legacy.Range.size]
  rw [hsz]
  refine vz_loop (st := vz_st s cA cM N k.toNatClampNeg (defaultValue ty)) (N := N) (fun i hi d2 acts2 Q2 hn2 => ?_) (fun d2 acts2 => ?_) N 0 (Nat.zero_add N) d acts1
  · have hm : i * k.toNatClampNeg + k.toNatClampNeg ≤ N * k.toNatClampNeg := by
      have h9 := Nat.mul_le_mul_right k.toNatClampNeg (show i + 1 ≤ N from hi)
      rw [Nat.succ_mul] at h9
      exact h9
    simp only [wp_bind']
    refine vz_wp1 (s := vz_st s cA cM N k.toNatClampNeg (defaultValue ty) i) (kM := kM) (cc := cc) (ty := ty) b1 b2 hk l3 l4 hdf (by rw [vz_size]; omega) (by show s.slotsUsed + N + i * k.toNatClampNeg + k.toNatClampNeg ≤ _; omega) (fun acts3 => ?_)
    simp only [wp_bind', Jvm.W.writeLoc, wp_pure']
    refine ⟨_, vz_cell s cA cM N k.toNatClampNeg (defaultValue ty) i, (fun q => (by cases q)), (by rw [vz_out_size]; exact hi), ?_, ?_⟩
    · have q1 : (vz_st s cA cM N k.toNatClampNeg (defaultValue ty) i).vm.classes[cA]? = some kA := a1
      show State.fitsSlot _ cA .none i _ = true
      simp [State.fitsSlot, State.slotType?, q1, a2, fits]
    · rw [vz_size, vz_out_next, vz_next]
      exact hn2 _ _
  · simp only [wp_pure']
    exact hq _ _
end VZW
section VZS
variable {p : Program} {l : Launch} {e : Env} {R : Room} {s T : State} {m : MethodId} {args : Array Value} {below : List Frame} {meth : Method} {c : Code} {locs : List Loc} {cells slots : Nat}
theorem vz_mna (X : Stand p l e R s m args below meth c T locs cells slots) (hexec : p.tables.exec = Jvm.exec) {own : String} {index : Nat} {ty : FieldType} (hown : s.vm.findClass own = some m.cls) (hclink : (Cond.classLink own index ("[" ++ (FieldType.array ty).toString)).before args s = true) (hover : va_AOA ty s) (harr : (Cond.arrayClass ty).before args s = true)
    {g : JFrame} (hg : g.method = m) (hdg : decode c.code g.pc = .ok (.multianewarray index 2, 4)) {n k : Int32} {rest : List Value} (hst : g.stack = .int k :: .int n :: rest) (hn : ¬ n < 0) (hk : ¬ k < 0) {N K : Nat} (hN : n.toNatClampNeg = N) (hK : k.toNatClampNeg = K)
    (hb1 : N * 4 ≤ 536870912) (hb2 : K * componentBytes ty ≤ 536870912) (hb3 : K ≤ 536870912) (hdf : fits ty (defaultValue ty) = true) (hcells : cells + (1 + N) ≤ R.cells) (hslots : slots + (N + N * K) ≤ R.slots) :
    ∃ (vm₁ : Vm) (cA cM : ClassId), s.vm.findClass ("[" ++ (FieldType.array ty).toString) = some cA ∧ s.vm.findClass (FieldType.array ty).toString = some cM ∧ ArrOfT s cA (.array ty) ∧
      Stand p l e R s m args below meth c (vz_st (T.setVm vm₁) cA cM N K (defaultValue ty) N) locs (cells + 1 + N) (slots + N + N * K) ∧
      ∀ target, Steps p.tables e below ((vz_st (T.setVm vm₁) cA cM N K (defaultValue ty) N).setTop { g with pc := g.pc + 4, stack := .ref T.heap.size :: rest }) target → Steps p.tables e below (T.setTop g) target := by
  subst hg
  subst hN
  subst hK
  obtain ⟨cM, cA, kA, v1, -, v2, v3, v4⟩ := vo_spec hover
  obtain ⟨cM2, kM, cc, u1, u2, u3⟩ := Cond.arrayClass_spec harr
  have hM : cM2 = cM := Option.some.inj (u1.symm.trans v1)
  subst hM
  obtain ⟨cA2, w1, w2⟩ := Cond.classLink_spec hown hclink e.platform (by rw [X.admits.platform])
  have hA : cA2 = cA := Option.some.inj (w1.symm.trans v4)
  subst hA
  obtain ⟨z1, z2, -⟩ := State.classEntry (e := e) X.warmed w2
  generalize T.vm.noted g.method.cls index (.cls cA2) = vm₁ at z1 z2
  obtain ⟨kA1, x1, x2⟩ := z2.alike.2.2 _ _ v2
  obtain ⟨kM1, y1, y2⟩ := z2.alike.2.2 _ _ u2
  have XF := vz_stand (X.noted z2) cA2 cM2 n.toNatClampNeg k.toNatClampNeg (defaultValue ty) n.toNatClampNeg
  obtain ⟨r1, r2⟩ := X.roomAbove hcells hslots
  refine ⟨vm₁, cA2, cM2, v4, v1, fun q z => ⟨fun q2 hq2 => (by cases hq2), kA, v2, cM2, v3⟩, XF, fun target hrest => ?_⟩
  have hA1 := Launch.admits_arrayLengthLimit X.admits
  have hA2 := Launch.admits_maxHeapBytes X.admits
  jvm_step X.here [hexec, hdg]
  simp only [Jvm.Op.multianewarray.sem, wp_bind', Jvm.W.resolveClassAt_links (State.method?_setTop g X.here.top) z1]
  refine (Jvm.Op.popN_top (s := T.setVm vm₁) (f := g) (args := [.int n, .int k]) (rest := rest) X.here.top (by simpa using hst)).mpr ?_
  simp only [List.mapM_cons, List.mapM_nil, wp_bind', wp_pure']
  refine vz_wp2 (s := (T.setVm vm₁).setTop { g with stack := rest }) (kA := kA1) (kM := kM1) (cM := cM2) (cc := cc) (ty := ty) x1 (by rw [x2]; exact v3) y1 (by rw [y2]; exact u3) hn hk (by rw [hA1]; omega) (by rw [hA2]; show ¬ n.toNatClampNeg * 4 > 536870912; omega) (by rw [hA1]; omega) (by rw [hA2]; omega) hdf (by show T.heap.size + 1 + _ ≤ _; omega) (by show T.slotsUsed + _ + _ ≤ _; omega) (fun d2 acts2 => ?_)
  rw [vz_top]
  simp only [wp_bind', Jvm.W.mark, Jvm.W.pushRef, State.topJava?_setTop' _ XF.here.top, Option.some.injEq, exists_eq_left', State.setTop_setTop, State.heap_setTop]
  intro acts3
  simp [jvm, XF.here.top]
  exact hrest
end VZS
/-! ===== BEGIN new T[n][m]: the outer array a place, the inner ones among the pooled ===== -/
/-- f, but v at every address of l -/
def vr_up {α : Type} (f : Nat → α) (l : List Nat) (v : α) : Nat → α := fun a => if a ∈ l then v else f a
theorem vr_up_in {α : Type} {f : Nat → α} {l : List Nat} {v : α} {a : Nat} (h : a ∈ l) : vr_up f l v a = v := if_pos h
theorem vr_up_ne {α : Type} {f : Nat → α} {l : List Nat} {v : α} {a : Nat} (h : a ∉ l) : vr_up f l v a = f a := if_neg h
theorem vr_rows {L l : List Nat} {f : Nat → va_E} {e : va_E} (h : ∀ a, a ∈ l → a ∉ L) : va_pl L f ++ l.map (fun a => (a, e)) = va_pl (L ++ l) (vr_up f l e) := by
  unfold va_pl
  rw [List.map_append]
  congr 1
  · apply List.map_congr_left
    intro a ha
    rw [vr_up_ne (fun q => h a q ha)]
  · apply List.map_congr_left
    intro a ha
    rw [vr_up_in ha]
theorem vr_lay {X rows : va_W} {x : Nat × va_E} {pl : va_W} {D : va_G} {cl : List vw_C} {H : Heap} (hP : va_P D cl (((X ++ pl) ++ [x]) ++ rows) H) : va_P D cl ((X ++ [x]) ++ (pl ++ rows)) H := by
  rw [List.append_assoc (X ++ pl)] at hP
  have h := va_P.swap hP
  rw [← List.append_assoc X] at h
  have h2 := va_P.swap h
  rw [List.append_assoc (X ++ [x])] at h2
  exact h2
theorem vr_layD {X rows : va_W} {x : Nat × va_E} {pl : va_W} {A : Nat → Prop} (hD : va_D A (((X ++ pl) ++ [x]) ++ rows)) : va_D A ((X ++ [x]) ++ (pl ++ rows)) := by
  rw [List.append_assoc (X ++ pl)] at hD
  have h := va_D.swap hD
  rw [← List.append_assoc X] at h
  have h2 := va_D.swap h
  rw [List.append_assoc (X ++ [x])] at h2
  exact h2
section VGM
variable {p : Program} {l : Launch} {e : Env} {R : Room} {s : State} {m : MethodId} {args : Array Value} {below : List Frame} {meth : Method} {c : Code} {H : Heap} {locs : List Loc} {cells slots : Nat} {Q : State → Prop}
variable {cc : ByteArray} {pc : Nat} {ls : Array Slot} {rest : List Value} {D : va_G} {cl : List vw_C} {A : Nat → Prop} {a : Nat} {tys : List (ClassId × FieldType)} {ws : va_W} {H0 : Heap}
theorem va_mna {X : va_W} {L : List Nat} {f : Nat → va_E} {cc : ByteArray} (hexec : p.tables.exec = Jvm.exec) (hb : c.code = cc) {own : String} {index : Nat} {ty : FieldType} {cy : ClassId} (hown : s.vm.findClass own = some m.cls) (hclink : (Cond.classLink own index ("[" ++ (FieldType.array ty).toString)).before args s = true) (hover : va_AOA ty s) (harr : (Cond.arrayClass ty).before args s = true) (hcy : s.vm.findClass (FieldType.array ty).toString = some cy)
    (hK : va_K D cl tys s) (hP : va_P D cl (X ++ va_pl L f) H) (hD : va_D A (X ++ va_pl L f)) (hS : va_S A H0 H locs) (hA : ∀ q, H0.size ≤ q → A q) {n k : Int32} {N' K' : Nat} {z : vp_A} (hn : ¬ n < 0) (hk : ¬ k < 0) (hN : n.toNatClampNeg = N') (hM : k.toNatClampNeg = K')
    (hb1 : N' * 4 ≤ 536870912) (hb2 : K' * componentBytes ty ≤ 536870912) (hb3 : K' ≤ 536870912) (hdf : fits ty (defaultValue ty) = true) (hdd : (defaultValue ty).isDefault = true) (hcells : cells + (1 + N') ≤ R.cells) (hslots : slots + (N' + N' * K') ≤ R.slots) (hz : ∀ c : ClassId, vz_in c K' (defaultValue ty) = vp_cell c z) (hdg : decode cc pc = .ok (.multianewarray index 2, 4))
    (kk : ∀ (q : Nat) (r : Nat → Nat) (cA : ClassId) (H1 : Heap), (∀ i j : Nat, i < N' → j < N' → r i = r j → i = j) → (∀ i : Nat, i < N' → r i ∉ L) → va_K D cl (tys ++ [(cA, .array ty)]) s →
      va_P D cl ((X ++ [(q, .inl (cA, N', .inr (.inr (.inr (.inr (fun i => if i < N' then some (r i) else none))))))]) ++ va_pl (L ++ (List.range N').map r) (vr_up f ((List.range N').map r) (.inl (cy, z)))) H1 → va_D A ((X ++ [(q, .inl (cA, N', .inr (.inr (.inr (.inr (fun i => if i < N' then some (r i) else none))))))]) ++ va_pl (L ++ (List.range N').map r) (vr_up f ((List.range N').map r) (.inl (cy, z)))) → va_S A H0 H1 locs →
      W p l e R s m args below meth c H1 locs (cells + 1 + N') (slots + N' + N' * K') Q (F0 m (pc + 4) ls (.ref q :: rest))) : W p l e R s m args below meth c H locs cells slots Q (F0 m pc ls (.int k :: .int n :: rest)) := by
  subst hN
  subst hM
  intro T hT Xs
  obtain ⟨vm₁, cA, comp, fA, fC, hAr, X', step⟩ := vz_mna Xs hexec hown hclink hover harr (g := F0 m pc ls (.int k :: .int n :: rest)) rfl (by rw [hb]; exact hdg) rfl hn hk rfl rfl hb1 hb2 hb3 hdf hcells hslots
  have ec : some cy = some comp := hcy.symm.trans fC
  cases ec
  have hTh : (T.setVm vm₁).heap = H := hT
  have f1 := vz_size (T.setVm vm₁) cA cy n.toNatClampNeg k.toNatClampNeg (defaultValue ty) n.toNatClampNeg
  have f2 := vz_mid (T.setVm vm₁) cA cy n.toNatClampNeg k.toNatClampNeg (defaultValue ty) n.toNatClampNeg
  have f3 := fun (x : Nat) (hx : x < (T.setVm vm₁).heap.size) => vz_lo (T.setVm vm₁) cA cy n.toNatClampNeg k.toNatClampNeg (defaultValue ty) n.toNatClampNeg hx
  have f4 := vz_hi (T.setVm vm₁) cA cy n.toNatClampNeg k.toNatClampNeg (defaultValue ty) n.toNatClampNeg
  generalize hF : vz_st (T.setVm vm₁) cA cy n.toNatClampNeg k.toNatClampNeg (defaultValue ty) n.toNatClampNeg = F at X' step f1 f2 f3 f4
  rw [hTh] at f1 f2 f3 f4
  have hold : ∀ x : Nat, x < H.size → F.heap[x]? = H[x]? := f3
  have hrow : ∀ j : Nat, j < n.toNatClampNeg → F.heap[H.size + 1 + j]? = some (vp_cell cy z) := fun j hj => (f4 j hj).trans (congrArg some (hz cy))
  have hout : vz_out cA n.toNatClampNeg H.size n.toNatClampNeg = vp_cell cA (n.toNatClampNeg, .inr (.inr (.inr (.inr (fun i => if i < n.toNatClampNeg then some (H.size + 1 + i) else none))))) := by
    rw [vp_cell_q]
    rfl
  rw [hout] at f2
  have hlt : ∀ a, a ∈ L → a < H.size := fun a ha => by
    obtain ⟨k9, hk9⟩ := va_pl_get (X := X) (f := f) ha
    exact (hP k9 _ hk9).lt
  have hnl : ∀ i : Nat, i < n.toNatClampNeg → H.size + 1 + i ∉ L := fun i _ h => by
    have := hlt _ h
    omega
  have hnm : ∀ a, a ∈ (List.range n.toNatClampNeg).map (fun i => H.size + 1 + i) → a ∉ L := fun a ha h => by
    obtain ⟨i, -, rfl⟩ := List.mem_map.mp ha
    have := hlt _ h
    omega
  have hP0 : va_P D cl (X ++ va_pl L f) F.heap := hP.kept (fun k9 x hx => hold x.1 ((hP k9 x hx).lt))
  have hP1 : va_P D cl ((X ++ va_pl L f) ++ [(H.size, .inl (cA, n.toNatClampNeg, .inr (.inr (.inr (.inr (fun i => if i < n.toNatClampNeg then some (H.size + 1 + i) else none))))))]) F.heap := hP0.app (fun k9 x hx => by
    have h0 : k9 < 1 := (List.getElem?_eq_some_iff.mp hx).1
    rw [show k9 = 0 by omega] at hx
    cases hx
    exact f2)
  have hP2 : va_P D cl (((X ++ va_pl L f) ++ [(H.size, .inl (cA, n.toNatClampNeg, .inr (.inr (.inr (.inr (fun i => if i < n.toNatClampNeg then some (H.size + 1 + i) else none))))))]) ++ ((List.range n.toNatClampNeg).map (fun i => H.size + 1 + i)).map (fun a => (a, .inl (cy, z)))) F.heap := hP1.app (fun k9 x hx => by
    obtain ⟨a, ha, rfl⟩ := List.mem_map.mp (List.mem_of_getElem? hx)
    obtain ⟨i, hi, rfl⟩ := List.mem_map.mp ha
    exact hrow i (List.mem_range.mp hi))
  have hD2 : va_D A (((X ++ va_pl L f) ++ [(H.size, .inl (cA, n.toNatClampNeg, .inr (.inr (.inr (.inr (fun i => if i < n.toNatClampNeg then some (H.size + 1 + i) else none))))))]) ++ ((List.range n.toNatClampNeg).map (fun i => H.size + 1 + i)).map (fun a => (a, .inl (cy, z)))) := by
    have hD1 := hD.push (e := .inl (cA, n.toNatClampNeg, .inr (.inr (.inr (.inr (fun i => if i < n.toNatClampNeg then some (H.size + 1 + i) else none)))))) hP rfl (hA _ hS.1)
    generalize hW1 : (X ++ va_pl L f) ++ [(H.size, .inl (cA, n.toNatClampNeg, .inr (.inr (.inr (.inr (fun i => if i < n.toNatClampNeg then some (H.size + 1 + i) else none))))))] = W1 at hD1 hP1 ⊢
    have hle : ∀ (k9 : Nat) (x : Nat × va_E), W1[k9]? = some x → x.1 ≤ H.size := fun k9 x hx => by
      rw [← hW1] at hx
      by_cases hl : k9 < (X ++ va_pl L f).length
      · rw [List.getElem?_append_left hl] at hx
        exact Nat.le_of_lt ((hP k9 x hx).lt)
      · rw [List.getElem?_append_right (by omega)] at hx
        have h0 : k9 - (X ++ va_pl L f).length < 1 := (List.getElem?_eq_some_iff.mp hx).1
        rw [show k9 - (X ++ va_pl L f).length = 0 by omega] at hx
        cases hx
        exact Nat.le_refl _
    have hr : ∀ (k9 : Nat) (x : Nat × va_E), (((List.range n.toNatClampNeg).map (fun i => H.size + 1 + i)).map (fun a => ((a, .inl (cy, z)) : Nat × va_E)))[k9]? = some x → x.1 = H.size + 1 + k9 := fun k9 x hx => by
      rw [List.getElem?_map, List.getElem?_map] at hx
      by_cases h9 : k9 < n.toNatClampNeg
      · rw [List.getElem?_range h9] at hx
        cases hx
        rfl
      · have hn0 : (List.range n.toNatClampNeg)[k9]? = none := List.getElem?_eq_none (by rw [List.length_range]; omega)
        rw [hn0] at hx
        cases hx
    refine ⟨fun i j x y hi hj hxy => ?_, fun k9 x hx => ?_⟩
    · by_cases h1 : i < W1.length <;> by_cases h2 : j < W1.length
      · rw [List.getElem?_append_left h1] at hi
        rw [List.getElem?_append_left h2] at hj
        exact hD1.1 i j x y hi hj hxy
      · rw [List.getElem?_append_left h1] at hi
        rw [List.getElem?_append_right (by omega)] at hj
        have := hle _ _ hi
        have := hr _ _ hj
        omega
      · rw [List.getElem?_append_right (by omega)] at hi
        rw [List.getElem?_append_left h2] at hj
        have := hle _ _ hj
        have := hr _ _ hi
        omega
      · rw [List.getElem?_append_right (by omega)] at hi hj
        have := hr _ _ hi
        have := hr _ _ hj
        omega
    · by_cases h1 : k9 < W1.length
      · rw [List.getElem?_append_left h1] at hx
        exact hD1.2 k9 x hx
      · rw [List.getElem?_append_right (by omega)] at hx
        have := hr _ _ hx
        exact hA _ (by have := hS.1; omega)
  have hK2 : va_K D cl (tys ++ [(cA, .array ty)]) s := ⟨hK.1, fun k9 x hx => by
    by_cases hl : k9 < tys.length
    · rw [List.getElem?_append_left hl] at hx
      exact hK.2 k9 x hx
    · rw [List.getElem?_append_right (by omega)] at hx
      have h0 : k9 - tys.length < 1 := (List.getElem?_eq_some_iff.mp hx).1
      rw [show k9 - tys.length = 0 by omega] at hx
      cases hx
      exact ⟨hAr, fA⟩⟩
  obtain ⟨t, a1, b1⟩ := kk H.size (fun i => H.size + 1 + i) cA F.heap (fun i j _ _ h => by have h9 : H.size + 1 + i = H.size + 1 + j := h; omega) hnl hK2 (by rw [← vr_rows hnm]; exact vr_lay hP2) (by rw [← vr_rows hnm]; exact vr_layD hD2) ⟨by rw [f1]; have := hS.1; omega, fun x h1 h2 => (hold x (Nat.lt_of_lt_of_le h1 hS.1)).trans (hS.2.1 x h1 h2), hS.2.2⟩ F rfl X'
  refine ⟨t, step t ?_, b1⟩
  have e : T.heap.size = H.size := by rw [hT]
  rw [e]
  exact a1
end VGM
/-! ===== END ===== -/
end
