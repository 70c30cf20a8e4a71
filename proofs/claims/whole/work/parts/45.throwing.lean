/-! 45: rows for methods that may throw NoSuchElementException, and for the two that catch it -/
abbrev nse : String := "java/util/NoSuchElementException"
abbrev nseN : List String := ["java/lang/RuntimeException", "java/lang/Exception"]
/-- the table of the running method -/
def vNT (s : State) (args : Array Value) (tb : List ExceptionTableEntry) : Prop := ∀ (m : MethodId) (below : List Frame) (meth : Method) (c : Code), s.frames = .invoking m args :: below → s.vm.method? m = some meth → meth.code = some c → c.exceptionTable.toList = tb
theorem vNT.of {s : State} {args : Array Value} {m : MethodId} {below : List Frame} {meth : Method} {c : Code} {tb : List ExceptionTableEntry} (h1 : s.frames = .invoking m args :: below) (h2 : s.vm.method? m = some meth) (h3 : meth.code = some c) (h : c.exceptionTable.toList = tb) : vNT s args tb := by
  intro m' below' meth' c' k1 k2 k3
  rw [h1] at k1
  cases k1
  rw [h2] at k2
  cases k2
  rw [h3] at k3
  cases k3
  exact h
def vXC (w : vWd) (XP : va_W → Prop) (A : Nat → Prop) : String → State → State → Prop := fun E st t => E = nse ∧ (∃ ws, XP ws ∧ va_P (vD w) vwCl ws t.heap ∧ va_D A ws) ∧ va_F A st t
def vcx (w : vWd) (d mc ms : Nat) (Q : Option Value → va_W → Prop) (XP : va_W → Prop) : vCtx := (vrm d mc ms, fun s args below A => vx_MQ below (vQ w Q A) (vXC w XP A) args s mc ms A, fun s args _ => vNT s args [])
/-- a method that returns or throws -/
def Cx (w : vWd) (M : vMet) (d mc ms : Nat) (args : List Value) (ws : va_W) (Q : Option Value → va_W → Prop) (XP : va_W → Prop) : Prop :=
  ∀ sz : Nat, vx_Met w.1 M.1 (vws M) (vrm d mc ms) (va_Pc args (fun U => U.heap.size = sz ∧ va_P (vD w) vwCl ws U.heap ∧ va_K (vD w) vwCl (vT w) U ∧ va_D (fun _ => True) ws ∧ vX w (va_A ws sz) U U.heap)) (vQ w Q (va_A ws sz)) (vXC w XP (va_A ws sz)) mc ms (va_A ws sz)
theorem Cx.of {w : vWd} {M : vMet} {d mc ms : Nat} {args : List Value} {ws : va_W} {Q : Option Value → va_W → Prop} {XP : va_W → Prop} {L : List (Nat × Value)} (hy : plainName M.1.cls = true) (hn : Nat.ble (lg_sl args).length M.2.2.1 = true) (hL : lv_args 0 args = L) (h : V w M (vcx w d mc ms Q XP) 0 0 0 L [] ws) : Cx w M d mc ms args ws Q XP := by
  intro sz
  refine vx_ofW (cc := M.2.1) (maxL := M.2.2.1) (ret := M.2.2.2) hy rfl ?_
  intro p e s m args' below meth c s₁ B hml ht hv
  obtain ⟨rfl, hsz, hP, hK, hD0, hX⟩ := hv
  subst hsz
  have hl := lv_entry args (n := M.2.2.1) (Nat.le_of_ble_eq_true hn)
  rw [hL] at hl
  rw [lg_entry_eq]
  have hts := atoms_spec (ws := vws M) B.pre
  exact h p e s m args.toArray below meth c (va_A ws s.heap.size) s.heap [] _ ⟨B.exec, B.bytes, B.returns, hml, findClass_of_methodNamed B.named, fun x hx => hts x (List.mem_cons_of_mem _ hx), B.notSynchronized, hK, hX, fun q hq => Or.inr hq, (name_of_methodNamed B.named B.method).1⟩ (vNT.of B.frames B.method (Stand.of_body B).code (List.eq_nil_iff_forall_not_mem.mpr fun x hx => ht x hx)) hP hD0.self va_S.rf hl
/-- the same with a table of one's own: it catches all that is thrown -/
def vct (w : vWd) (d mc ms : Nat) (hh : List (Nat × Nat × Nat × Nat)) (Q : Option Value → va_W → Prop) : vCtx := (vrm d mc ms, fun s args below A => MQ below (vQ w Q A) args s mc ms A, fun s args _ => vNT s args (tableOf hh))
def vwsT (M : vMet) (hh : List (Nat × Nat × Nat × Nat)) : List Cond := .codeWith M.1 M.2.1 M.2.2.1 M.2.2.2 hh :: TT
def CtT (w : vWd) (M : vMet) (hh : List (Nat × Nat × Nat × Nat)) (d mc ms : Nat) (args : List Value) (ws : va_W) (Q : Option Value → va_W → Prop) : Prop :=
  ∀ sz : Nat, Met w.1 M.1 (vwsT M hh) (vrm d mc ms) (va_Pc args (fun U => U.heap.size = sz ∧ va_P (vD w) vwCl ws U.heap ∧ va_K (vD w) vwCl (vT w) U ∧ va_D (fun _ => True) ws ∧ vX w (va_A ws sz) U U.heap)) (vQ w Q (va_A ws sz)) mc ms (va_A ws sz)
theorem CtT.of {w : vWd} {M : vMet} {hh : List (Nat × Nat × Nat × Nat)} {d mc ms : Nat} {args : List Value} {ws : va_W} {Q : Option Value → va_W → Prop} {L : List (Nat × Value)} (hy : plainName M.1.cls = true) (hn : Nat.ble (lg_sl args).length M.2.2.1 = true) (hL : lv_args 0 args = L) (h : V w M (vct w d mc ms hh Q) 0 0 0 L [] ws) : CtT w M hh d mc ms args ws Q := by
  intro sz
  refine va_MetW (cc := M.2.1) (maxL := M.2.2.1) (ret := M.2.2.2) (hh := hh) hy rfl ?_
  intro p e s m args' below meth c s₁ B hml hv
  obtain ⟨rfl, hsz, hP, hK, hD0, hX⟩ := hv
  subst hsz
  have hl := lv_entry args (n := M.2.2.1) (Nat.le_of_ble_eq_true hn)
  rw [hL] at hl
  rw [lg_entry_eq]
  have hts := atoms_spec (ws := vwsT M hh) B.pre
  exact h p e s m args.toArray below meth c (va_A ws s.heap.size) s.heap [] _ ⟨B.exec, B.bytes, B.returns, hml, findClass_of_methodNamed B.named, fun x hx => hts x (List.mem_cons_of_mem _ hx), B.notSynchronized, hK, hX, fun q hq => Or.inr hq, (name_of_methodNamed B.named B.method).1⟩ (vNT.of B.frames B.method (Stand.of_body B).code (vx_table (x := M.1) B (hts _ List.mem_cons_self))) hP hD0.self va_S.rf hl
def xAts : List Cond := Bundle.throwableAtoms ++ Bundle.throwableSAtoms ++ Bundle.passSAtoms nse "java/lang/RuntimeException" 13 prog_23_method_4_code ++ Bundle.chainSAtoms "java/lang/RuntimeException" ["java/lang/Exception"] ++
  [.methodLink "CashDeriver" 112 (Bundle.initS nse), .instantiable nse 6, .castable nse nse, .selects nse Bundle.tFill0 Bundle.tFill0, .selects nse Bundle.tFill Bundle.tFill,
   .lays nse Bundle.tN "cause" "Ljava/lang/Throwable;", .lays nse Bundle.tN "stackTrace" Bundle.steD, .lays nse Bundle.tN "suppressedExceptions" Bundle.listD, .lays nse Bundle.tN "detailMessage" "Ljava/lang/String;",
   .isRef (.static Bundle.tN "UNASSIGNED_STACK" Bundle.steD), .isRef (.static Bundle.tN "SUPPRESSED_SENTINEL" Bundle.listD),
   .fieldLink Bundle.tN 198 Bundle.tN "backtrace" "Ljava/lang/Object;", .lays Bundle.tN Bundle.tN "backtrace" "Ljava/lang/Object;", .lays nse Bundle.tN "backtrace" "Ljava/lang/Object;"]
theorem x_chain {args : Array Value} {s : State} {pl : Platform} (hpl : pl.magicAccessors = ({} : Platform).magicAccessors) {top : MethodId} (htop : s.methodNamed? (Bundle.initS Bundle.tN) = some top)
    (h1 : ∀ c ∈ Bundle.passSAtoms nse "java/lang/RuntimeException" 13 prog_23_method_4_code, c.before args s = true) (h2 : ∀ c ∈ Bundle.chainSAtoms "java/lang/RuntimeException" ["java/lang/Exception"], c.before args s = true) :
    ∃ (P1 : PassC) (Ps : List PassC), Ps.length = 2 ∧ P1.LinksS pl s ∧ (∀ P, P ∈ Ps → P.LinksS pl s) ∧ s.methodNamed? (Bundle.initS nse) = some P1.m ∧ P1.sup = firstOf top (Ps.map (·.toPassT)) ∧ PassesOn top (Ps.map (·.toPassT)) := by
  obtain ⟨P, L, hm, hs⟩ := PassC.ofS_atoms (args := args) (s := s) hpl (X := nse) (Y := "java/lang/RuntimeException") (by decide) (by decide) (by decide +kernel) (by decide +kernel) (by decide +kernel) (by decide +kernel) h1
  obtain ⟨P', Ps, hlen, L', hL, hm', hsup, hpass⟩ := Bundle.chainS (args := args) hpl htop ["java/lang/Exception"] "java/lang/RuntimeException" (by decide) (by decide) h2
  refine ⟨P, P' :: Ps, by simp [hlen], L, ?_, hm, Option.some.inj (hs.symm.trans hm'), hsup, hpass⟩
  intro Q hQ
  rcases List.mem_cons.mp hQ with rfl | hQ
  · exact L'
  · exact hL Q hQ
section VNc
variable {p : Program} {l : Launch} {e : Env} {R : Room} {s : State} {m₀ : MethodId} {args : Array Value} {below : List Frame} {meth : Method} {c : Code} {W : State} {locs : List Loc} {cells slots : Nat}
set_option maxHeartbeats 1000000 in
/-- the kit's vx_ctorMadeS, turned to a constructor that names the next one by another entry -/
theorem vn_ctorMade (X : Stand p l e R s m₀ args below meth c W locs cells slots) (hexec : p.tables.exec = Jvm.exec) (htr : e.platform.stackTraces = false) 
    (hown : s.vm.findClass "CashDeriver" = some m₀.cls)
    (h : ∀ a ∈ xAts, a.before args s = true)
    (hlocs : ∀ x ∈ locs, ∀ cell, s.heap[x.base]? = some cell → cell.vm.isStatics = false)
    {a : Addr} {cX : ClassId} {kX : Class} (hfoundX : s.vm.findClass nse = some cX) (hkX : s.vm.classes[cX]? = some kX) (hcell : W.heap[a]? = some (freshCell cX kX)) (hnew : s.heap.size ≤ a)
    {msg : Value} (hmsg : msg.isRef = true)
    {g : JFrame} (hg : g.method = m₀) (hsize : g.locals.size = c.maxLocals) {rest : List Value} (hstack : g.stack = msg :: .ref a :: .ref a :: rest)
    (hd6 : decode c.code g.pc = .ok (.invokespecial 112, 3))
    (hRframes : 2 + 3 < R.frames) (hRlocals : 2 * g.monitorRoom + ((Value.ref a :: rest).map fun v => v.category).sum + (13 * (2 + 1) + 42) ≤ R.locals) :
    ∃ (V : State) (ce : Cell) (L : List Loc), Stand p l e R s m₀ args below meth c (V.setCell a ce) (locs ++ L) cells slots ∧ (∀ y ∈ L, y.base = a) ∧ a < V.heap.size ∧ ce.cls = cX ∧ ce.vm = .none ∧
      ∀ target, Steps p.tables e below ((V.setCell a ce).setTop { g with stack := .ref a :: rest, pc := g.pc + 3 }) target → Steps p.tables e below (W.setTop g) target := by
  have howns : e.platform.frameOwnsMonitors = true := by rw [X.admits.platform]
  have hfin : e.platform.finalization = false := by rw [X.admits.platform]
  have hpl : e.platform.magicAccessors = ({} : Platform).magicAccessors := by rw [X.admits.platform]
  have a' : ∀ x, x ∈ xAts → x.holds args s none s [] = true := fun x hx => h x hx
  obtain ⟨T, Z0, L, -, Y⟩ := ThrowableC.of_atoms (args := args) howns hfin hpl (fun x hx => h x (by simp [xAts, hx]))
  obtain ⟨Z, M, LZ, LM, hnZ⟩ := Init0T.ofS_atoms (args := args) hpl L Y (fun x hx => h x (by simp [xAts, hx]))
  obtain ⟨P1, Ps, hlen, L1, hL, hP1m, hlink1, hlink⟩ := x_chain (args := args) hpl hnZ (fun x hx => h x (by simp only [xAts, List.mem_append]; exact Or.inl (Or.inl (Or.inr hx)))) (fun x hx => h x (by simp only [xAts, List.mem_append]; exact Or.inl (Or.inr hx)))
  have hfound : s.vm.findClass nse = some P1.m.cls := findClass_of_methodNamed hP1m
  cases Option.some.inj (hfoundX.symm.trans hfound)
  obtain ⟨c1, kX', hc1, hk, hord, -, -, hn6⟩ := Cond.instantiable_spec (a' (.instantiable nse 6) (by simp [xAts]))
  cases Option.some.inj (hc1.symm.trans hfound)
  cases Option.some.inj (hkX.symm.trans hk)
  have hsel0 : selectMethod e.platform s.vm P1.m.cls T.fill0 = .method T.fill0 := by
    obtain ⟨c2, r2, m2, q1, q2, q3, q4, -⟩ := Cond.selects_spec (a' (.selects nse Bundle.tFill0 Bundle.tFill0) (by simp [xAts]))
    cases Option.some.inj (q1.symm.trans hfound)
    cases Option.some.inj (q2.symm.trans (State.methodFound?_of_named Y.fill0 (by decide)))
    cases Option.some.inj (q3.symm.trans Y.fill0)
    rw [Launch.admits_selectMethod X.admits]; exact q4
  have hselF : selectMethod e.platform s.vm P1.m.cls T.fill = .method T.fill := by
    obtain ⟨c2, r2, m2, q1, q2, q3, q4, -⟩ := Cond.selects_spec (a' (.selects nse Bundle.tFill Bundle.tFill) (by simp [xAts]))
    cases Option.some.inj (q1.symm.trans hfound)
    cases Option.some.inj (q2.symm.trans (State.methodFound?_of_named Y.fill (by decide)))
    cases Option.some.inj (q3.symm.trans Y.fill)
    rw [Launch.admits_selectMethod X.admits]; exact q4
  obtain ⟨cellS0, hcS0, hiss⟩ := Y.statics
  obtain ⟨u0, hu0⟩ := Cond.staticRefV Y.unassigned L.unassignedStatic L.statics hcS0 hiss (a' (.isRef (.static Bundle.tN "UNASSIGNED_STACK" Bundle.steD)) (by simp [xAts]))
  obtain ⟨sen, hsen⟩ := Cond.staticRefV Y.sentinel L.sentinelStatic L.statics hcS0 hiss (a' (.isRef (.static Bundle.tN "SUPPRESSED_SENTINEL" Bundle.listD)) (by simp [xAts]))
  obtain ⟨ci198, i198, fB, hk198, hg198, ha198, hsB, -, hnB, htB, hffB⟩ := Cond.ownField (t := .object "java/lang/Object") Y.found L.cls (by decide +kernel) (a' (.fieldLink Bundle.tN 198 Bundle.tN "backtrace" "Ljava/lang/Object;") (by simp [xAts])) (a' (.lays Bundle.tN Bundle.tN "backtrace" "Ljava/lang/Object;") (by simp [xAts])) e.platform hpl
  obtain ⟨cellS, hcS', heS, -, hkeep⟩ := X.same.2.2.2.2.2 T.aS cellS0 hcS0
  have hcellS : W.heap[T.aS]? = some cellS := hcS'
  have hout' : ∀ i, (⟨T.aS, i⟩ : Loc) ∉ locs := fun i hmem => by
    have := hlocs _ hmem cellS0 hcS0
    rw [hiss] at this; cases this
  have hknownS : cellS.vm ≠ .unknown := by
    rw [heS]; intro hu
    rw [show cellS0.vm = .unknown from hu] at hiss
    cases hiss
  have hneS : T.aS ≠ a := Nat.ne_of_lt (Nat.lt_of_lt_of_le (Array.getElem?_eq_some_iff.mp hcS0).1 hnew)
  obtain ⟨iM, hffM⟩ := Y.msg
  obtain ⟨tyC, dC, hdC, hdnC⟩ := Cond.laysAt hfound hk Y.cause (a' (.lays nse Bundle.tN "cause" "Ljava/lang/Throwable;") (by simp [xAts]))
  obtain ⟨tyS, dS, hdS, hdnS⟩ := Cond.laysAt hfound hk Y.stack (a' (.lays nse Bundle.tN "stackTrace" Bundle.steD) (by simp [xAts]))
  obtain ⟨tyP, dP, hdP, hdnP⟩ := Cond.laysAt hfound hk Y.supp (a' (.lays nse Bundle.tN "suppressedExceptions" Bundle.listD) (by simp [xAts]))
  obtain ⟨tyM, dM, hdM, hdnM⟩ := Cond.laysAt hfound hk hffM (a' (.lays nse Bundle.tN "detailMessage" "Ljava/lang/String;") (by simp [xAts]))
  obtain ⟨tyB, dB, hdB, hdnB⟩ := Cond.laysAt hfound hk hffB (a' (.lays nse Bundle.tN "backtrace" "Ljava/lang/Object;") (by simp [xAts]))
  have bC := Cond.laysApart hdB hdC hdnB hdnC (by rw [hnB, Y.causeName]; decide)
  have bS := Cond.laysApart hdB hdS hdnB hdnS (by rw [hnB, Y.stackName]; decide)
  have bP := Cond.laysApart hdB hdP hdnB hdnP (by rw [hnB, Y.suppName]; decide)
  have hskip : SkipFacts T e.platform s (fun u => u) u0 ((preparedCellV T.toThrowableT (freshCell P1.m.cls kX) a u0 sen).withEntry W.cur) :=
    ⟨{ ci198 := ci198, i198 := i198, fBack := fB }, ⟨hk198, hg198, ha198, hsB⟩, by
      have := fresh_default (c := P1.m.cls) tyB
      rw [htB] at this
      simpa [preparedCellV, Cell.setSlot, Cell.withEntry, Array.getElem?_setIfInBounds, bC, bS, bP, bC.symm, bS.symm, bP.symm, defaultValue] using this, fun _ _ => rfl⟩
  obtain ⟨tm, methC, cdC, kC, vm₁, hnC, -, -, -, -, -, -, -, hW₁, st1⟩ := Steps.initColdS (tb := p.tables) (e := e) (below := below) (s := s) (U := W) X.here hexec X.warmed hpl hown (t := Bundle.initS nse) rfl rfl ⟨by decide, by decide⟩
    (a' (.methodLink "CashDeriver" 112 (Bundle.initS nse)) (by simp [xAts])) (h (.instanceMethod (Bundle.initS nse)) (by simp [xAts, Bundle.passSAtoms])) (bytes := prog_23_method_4_code) (maxL := 2) (h (.code (Bundle.initS nse) prog_23_method_4_code 2 none) (by simp [xAts, Bundle.passSAtoms]))
    (f := g) hg (a := a) (msg := msg) (rest := .ref a :: rest) hstack hd6
  cases Option.some.inj (hnC.symm.trans hP1m)
  have X₁ := X.noted hW₁
  obtain ⟨vm₂, X₂, st2⟩ := X₁.ctorMessageOffV hexec (g := { g with stack := .ref a :: rest }) hg hsize T L Z LZ M LM (P1 :: Ps)
    (fun P hP => by rcases List.mem_cons.mp hP with rfl | hP; exact L1; exact hL P hP) ⟨hlink1, hlink⟩ (u0 := u0) (sen := sen) (self := a) hmsg (cell := freshCell P1.m.cls kX) (cellS := cellS)
    hcell (fun _ => by simp) (by simp) rfl rfl hsel0 hselF hcellS hneS hknownS (by rw [hkeep _ (hout' _)]; exact hu0) (by rw [hkeep _ (hout' _)]; exact hsen)
    (Takes.of_laid hk hord tyC (by rw [Y.causeType]; rfl)) (Takes.of_laid hk hord tyS (by rw [Y.stackType]; exact fits_refV_array _ u0)) (Takes.of_laid hk hord tyP (by rw [Y.suppType]; exact fits_refV_object _ sen))
    (Takes.of_laid hk hord tyM (by rw [Y.msgType]; exact fits_refV_object _ ⟨msg, hmsg⟩)) Y.objLocals hskip htr [] hd6
    (by simp only [List.length_cons, hlen]; omega) (by simp only [List.length_cons, hlen]; exact hRlocals)
  have hlt : a < ((W.setVm vm₁).setVm vm₂).heap.size := (Array.getElem?_eq_some_iff.mp hcell).1
  refine ⟨(W.setVm vm₁).setVm vm₂, _, _, X₂, fun y hy => ?_, hlt, rfl, rfl, fun target hwalk => st1 _ (fun acts => ?_)⟩
  · simp only [List.mem_cons, List.not_mem_nil, or_false] at hy
    rcases hy with rfl | rfl | rfl | rfl | rfl <;> rfl
  · rw [doInvoke_state]
    exact st2 _ hwalk
end VNc
section VNm
variable {p : Program} {l : Launch} {e : Env} {R : Room} {s : State} {m : MethodId} {args : Array Value} {below : List Frame} {meth : Method} {c : Code} {H : Heap} {locs : List Loc} {cells slots : Nat} {Q : State → Prop}
variable {ls : Array Slot} {rest : List Value}
/-- the kit's vx_makeS, likewise, with no pool -/
theorem vn_make {cc : ByteArray} {pc : Nat} (hexec : p.tables.exec = Jvm.exec) (hb : c.code = cc) (hl : l.stackTraces = false) {text : String} {is sa : Nat} {A : Nat → Prop}
    (hown : s.vm.findClass "CashDeriver" = some m.cls)
    (hk : (Cond.classLink "CashDeriver" 108 nse).before args s = true) (hini : (Cond.initialized nse).before args s = true) (hstr : vk_R "CashDeriver" is text sa s) (hat : ∀ w ∈ xAts.filter vx_no, w.before args s = true)
    (hgood : ∀ w ∈ Cond.classLink "CashDeriver" 108 nse :: Cond.initialized nse :: xAts.filter vx_no, vx_ot w = true)
    (hU : vx_Zq Bundle.tN "UNASSIGNED_STACK" Bundle.steD A s s.heap) (hN : vx_Zq Bundle.tN "SUPPRESSED_SENTINEL" Bundle.listD A s s.heap) (hS : va_S A s.heap H locs) (hsize : ls.size = c.maxLocals)
    (d0 : decode cc pc = .ok (.new 108, 3)) (d3 : decode cc (pc + 3) = .ok (.dup, 1)) (d4 : decode cc (pc + 4) = .ok (.ldc is, 2)) (d6 : decode cc (pc + 6) = .ok (.invokespecial 112, 3))
    (hRframes : 2 + 3 < R.frames) (hRlocals : (rest.map fun v => v.category).sum + (13 * (2 + 1) + 43) ≤ R.locals) (hRcells : cells + 1 ≤ R.cells) (hRslots : slots + 6 ≤ R.slots)
    (kk : ∀ (q : Nat) (ce : Cell) (H1 : Heap), H1[q]? = some ce → ce.vm = .none → s.vm.findClass nse = some ce.cls → H.size ≤ H1.size → (∀ x : Nat, x < H.size → H1[x]? = H[x]?) → W p l e R s m args below meth c H1 locs (cells + 1) (slots + 6) Q (F0 m (pc + 9) ls (.ref q :: rest))) :
    W p l e R s m args below meth c H locs cells slots Q (F0 m pc ls rest) := by
  intro T hT X
  subst hT
  have htr : e.platform.stackTraces = false := (show e.platform.stackTraces = l.stackTraces by rw [X.admits.platform]).trans hl
  have Y := vx_rebase X (R' := { frames := R.frames, locals := R.locals, cells := 1, slots := 6 }) (Nat.le_refl _) (Nat.le_refl _) hRcells hRslots
  obtain ⟨s', hA'⟩ : ∃ z, z = (T.setVm s.vm).setFrames (.invoking m args :: below) := ⟨_, rfl⟩
  rw [← hA'] at Y
  have hvm : s'.vm = s.vm := by rw [hA']; rfl
  have hhp : s'.heap = T.heap := by rw [hA']; rfl
  have hW0 : s.WarmedH s'.vm := by rw [hvm]; exact State.WarmedH.refl s
  have hat' : ∀ w ∈ xAts.filter vx_no, w.before args s' = true := fun w hw => vx_ot_at hW0 hvm.symm (hgood w (List.mem_cons_of_mem _ (List.mem_cons_of_mem _ hw))) (hat w hw)
  have hk' : (Cond.classLink "CashDeriver" 108 nse).before args s' = true := vx_ot_at hW0 hvm.symm (hgood _ List.mem_cons_self) hk
  have hini' : (Cond.initialized nse).before args s' = true := vx_ot_at hW0 hvm.symm (hgood _ (List.mem_cons_of_mem _ List.mem_cons_self)) hini
  have hU' : vx_Zq Bundle.tN "UNASSIGNED_STACK" Bundle.steD A s' s'.heap := by rw [hhp]; exact vx_Zq.moved hW0.alike (hU.kept hS.2.1)
  have hN' : vx_Zq Bundle.tN "SUPPRESSED_SENTINEL" Bundle.listD A s' s'.heap := by rw [hhp]; exact vx_Zq.moved hW0.alike (hN.kept hS.2.1)
  have h : ∀ w ∈ xAts, w.before args s' = true := vx_own hat' (vx_isRefq hU'.1) (vx_isRefq hN'.1) hU'.2.word hN'.2.word
  have hown' : s'.vm.findClass "CashDeriver" = some m.cls := by rw [hvm]; exact hown
  have hins : (Cond.instantiable nse 6).before args s' = true := h _ (by simp [xAts])
  obtain ⟨vm₁, cX, kX, hfX, hkX, -, -, X₁, st1⟩ := Y.newCold hexec (own := "CashDeriver") (C := nse) (index := 108) (n := 6) hown' hk' hins hini'
    (g := F0 m pc ls rest) rfl (by rw [hb]; exact d0) (Nat.le_refl _) (Nat.le_refl _)
  generalize hT1 : (T.setVm vm₁).pushCell { cls := cX, slots := kX.instanceTypes.map defaultValue, vm := .none } = T1 at X₁ st1
  have hcat : (Value.ref T.heap.size).category = 1 := rfl
  have hcellA : T1.heap[T.heap.size]? = some (freshCell cX kX) := by rw [← hT1]; exact State.heap_pushCell_size _ _
  have d3' : decode c.code (pc + 3) = .ok (.dup, 1) := by rw [hb]; exact d3
  have d4' : decode c.code (pc + 4) = .ok (.ldc is, 2) := by rw [hb]; exact d4
  have hstr' : vk_R "CashDeriver" is text sa s' := vk_R.warm hW0 hstr
  obtain ⟨V, ce, L, Z, hL, hlt, hcl9, hvm9, st⟩ := vn_ctorMade X₁ hexec htr hown' h (fun x hx => nomatch hx) hfX hkX hcellA (by rw [hhp]; exact Nat.le_refl _) (msg := .ref sa) rfl
    (g := { method := m, pc := pc + 6, locals := ls, stack := .ref sa :: .ref T.heap.size :: .ref T.heap.size :: rest, locked := none }) rfl hsize (rest := rest) rfl
    (by rw [hb]; exact d6) hRframes (by simp only [List.map_cons, List.sum_cons, hcat]; omega)
  have Z0 := Stand.forget (locs := []) Z (fun y hy => by rw [hL y hy, hhp]; exact Nat.le_refl _)
  obtain ⟨f1, f2⟩ := vx_frame Z0.same
  rw [hhp] at f1 f2
  have hcid : s.vm.findClass nse = some ce.cls := by
    rw [hcl9, ← hvm]
    exact hfX
  have hh : (V.setCell T.heap.size ce).heap[T.heap.size]? = some ce := heapAt_setCell_self (s := V) ce hlt
  subst hA'
  have X5 := vx_back9 X Y Z0
  have X6 : Stand p l e R s m args below meth c (V.setCell T.heap.size ce) locs (cells + 1) (slots + 6) := { X5 with same := X5.same.mono (by omega) (by omega) }
  obtain ⟨t, a1, b1⟩ := kk T.heap.size ce (V.setCell T.heap.size ce).heap hh hvm9 hcid f1 (fun q h1 => f2 q h1 (fun z hz => nomatch hz)) _ rfl X6
  refine ⟨t, st1 _ ?_, b1⟩
  show Steps p.tables e below (T1.setTop { method := m, pc := pc + 3, locals := ls, stack := .ref T.heap.size :: rest, locked := none }) _
  jvm_step X₁.here [X₁.here.top, hexec, d3', Value.category]
  exact X₁.ldcString hexec (own := "CashDeriver") (text := text) (index := is) (a := sa) hown' hstr'.1 hstr'.2
    (g := { method := m, pc := pc + 4, locals := ls, stack := .ref T.heap.size :: .ref T.heap.size :: rest, locked := none }) rfl d4' _ (st _ a1)
end VNm
theorem x_good : ∀ x ∈ ((xAts).filter vx_no).filter goodWord, x ∈ TT := fun x hx => TT_in ((by decide +kernel : ∀ x ∈ ((xAts).filter vx_no).filter goodWord, x ∈ lw_tbl) x hx) (List.mem_filter.mp hx).2
theorem x_bad : ∀ x ∈ ((xAts).filter vx_no).filter (fun w => !goodWord w), x ∈ vDecl.map Cond.declares ++ [Cond.castable nse nse] := by decide +kernel
theorem x_ot : ∀ x ∈ Cond.classLink "CashDeriver" 108 nse :: Cond.initialized nse :: xAts.filter vx_no, vx_ot x = true := by decide +kernel
theorem x_cl : Cond.classLink "CashDeriver" 108 nse ∈ TT := TT_at 877 (by decide +kernel) rfl
theorem x_in : Cond.initialized nse ∈ TT := TT_at 89 (by decide +kernel) rfl
theorem x_ll : Cond.classLink "CashDeriverLaw" 13 nse ∈ TT := TT_at 872 (by decide +kernel) rfl
theorem v_dec {x : MethodName} {U : State} {args : Array Value} (h : va_Nw (.declares x) U) : (Cond.declares x).before args U = true := va_Nw.use rfl h
section VXr
variable {w : vWd} {M : vMet} {C : vCtx} {k n pc : Nat} {L : List (Nat × Value)} {st : List Value} {ws : va_W} {d mc ms : Nat} {Q : Option Value → va_W → Prop} {XP : va_W → Prop}
/-- from here on nothing is thrown -/
theorem V.noX (h : V w M (vc w d mc ms Q) k n pc L st ws) : V w M (vcx w d mc ms Q XP) k n pc L st ws :=
  fun p e s m args below meth c A H locs ls o _ hP hD hS hl => vx_ret (h p e s m args below meth c A H locs ls o trivial hP hD hS hl)
theorem V.noT {hh : List (Nat × Nat × Nat × Nat)} (h : V w M (vc w d mc ms Q) k n pc L st ws) : V w M (vct w d mc ms hh Q) k n pc L st ws :=
  fun p e s m args below meth c A H locs ls o _ hP hD hS hl => h p e s m args below meth c A H locs ls o trivial hP hD hS hl
theorem V_throwS {is j : Nat} {tx : String} (hst : w.1.stackTraces = false) (hM : M.1.cls = "CashDeriver") (d0 : vdec M pc (.new 108) 3) (d3 : vdec M (pc + 3) .dup 1) (d4 : vdec M (pc + 4) (.ldc is) 2) (d6 : vdec M (pc + 6) (.invokespecial 112) 3) (d9 : vdec M (pc + 9) .athrow 1) (hr : ("CashDeriver", is, tx, j) ∈ vRefs) (hd : 6 ≤ d) (hk : k + 1 ≤ mc) (hn : n + 6 ≤ ms) (hx : XP ws) : V w M (vcx w d mc ms Q XP) k n pc L [] ws := by
  intro p e s m args below meth c A H locs ls o E hP hD hS hl T hT X
  have hX := o.2.2.2.2.2.2.2.2.1
  have hown := o.2.2.2.2.1
  rw [hM] at hown
  have htb := E m below meth c X.frames X.method X.code
  refine vn_make (R := vrm d mc ms) (text := tx) (is := is) (sa := w.2.2.1 j) (A := A) (rest := []) o.1 o.2.1 hst hown (o.2.2.2.2.2.1 _ x_cl) (o.2.2.2.2.2.1 _ x_in) (hX.2.1 _ hr) (vx_hat (fun x hx => o.2.2.2.2.2.1 _ (x_good x hx)) x_bad (fun x hx => ?_)) x_ot hX.2.2.2.2.2.1 hX.2.2.2.2.2.2.1 hS (by rw [o.2.2.2.1]; exact hl.1) d0 d3 d4 d6 (show 2 + 3 < d by omega) (show 0 + (13 * (2 + 1) + 43) ≤ 64 * d by omega) hk hn (fun q ce H1 h1 h2 h3 h4 h5 => ?_) T hT X
  · rcases List.mem_append.mp hx with h | h
    · obtain ⟨y, hy, rfl⟩ := List.mem_map.mp h
      exact v_dec (hX.2.2.2.2.2.2.2.1 y hy)
    · rw [List.mem_singleton.mp h]
      exact va_Nw.use rfl hX.2.2.2.2.2.2.2.2.1
  · refine vx_athrow o.1 o.2.1 d9 (vx_out (E := nse) (fun x hx => by rw [htb] at hx; cases hx) o.2.2.2.2.2.2.1 h1 h2 h3 (fun t ht ha => ⟨rfl, ⟨ws, hx, ?_, hD⟩, ?_⟩) hS.2.2 hk hn)
    · rw [ht]
      exact va_P_iff.mpr fun q hq' => (va_P_iff.mp hP q hq').kept (h5 q.1 ((va_P_iff.mp hP q hq').lt))
    · exact ⟨by rw [ht]; exact Nat.le_trans hS.1 h4, fun q z1 z2 => by rw [ht]; exact (h5 q (Nat.lt_of_lt_of_le z1 hS.1)).trans (hS.2.1 q z1 z2)⟩
end VXr
section VXc
variable {p : Program} {l : Launch} {e : Env} {R : Room} {s : State} {m : MethodId} {args : Array Value} {below : List Frame} {meth : Method} {c : Code} {H : Heap} {locs : List Loc} {cells slots : Nat} {Qf : State → Prop}
variable {pc : Nat} {ls : Array Slot} {rest st0 : List Value} {a : Array Value} {A0 A1 : Nat → Prop} {H0 : Heap} {mc ms : Nat} {free : Addr → Prop} {w : vWd} {Q : Option Value → va_W → Prop} {XP : va_W → Prop}
theorem v_callX (hr : vx_Run p l e R s m args below meth c H locs cells slots mc ms (F0 m pc ls st0) rest (vQ w Q A1 a) (vXC w XP A1) free) (hS : va_S A0 H0 H locs) (hA : ∀ q, q < H.size → A1 q → A0 q) (hf : ∀ q, free q → A0 q)
    (kx : ∀ (ce : Cell) (q9 : Addr) (w1 : va_W) (H1 : Heap) (locs1 : List Loc), XP w1 → va_P (vD w) vwCl w1 H1 → va_D A1 w1 → (∀ q : Nat, q < H.size → ¬ A1 q → H1[q]? = H[q]?) → va_S A0 H0 H1 locs1 → H1[q9]? = some ce → ce.vm = .none → s.vm.findClass nse = some ce.cls → vx_W p l e R s m args below meth c H1 locs1 (cells + mc) (slots + ms) Qf (F0 m pc ls rest) q9)
    (kk : ∀ (r : Option Value) (w1 : va_W) (H1 : Heap) (locs1 : List Loc), Q r w1 → va_P (vD w) vwCl w1 H1 → va_D A1 w1 → (∀ q : Nat, q < H.size → ¬ A1 q → H1[q]? = H[q]?) → va_S A0 H0 H1 locs1 → W p l e R s m args below meth c H1 locs1 (cells + mc) (slots + ms) Qf (F0 m (pc + 3) ls (r.toList ++ rest))) : W p l e R s m args below meth c H locs cells slots Qf (F0 m pc ls st0) := by
  intro T hT X
  rcases hr T hT X with ⟨v, st₀, t, T', L, h0, X', hL, e1, e2, ⟨⟨r, w1, hv, hp, hb, hd⟩, hF⟩, st⟩ | ⟨q, st₀, t, T', L, E, ce, h0, X', hL, e1, e2, ⟨hE, ⟨w1, hp, hb, hd⟩, hF⟩, hce, hcv, hcl, st⟩
  · cases hv
    obtain ⟨k1, k2, k3⟩ := vx_keep h0 e1 hS hA hf hL hF
    obtain ⟨t2, a1, b1⟩ := kk v w1 T'.heap (locs ++ L) hp (by rw [e1]; exact hb) hd k2 k3 T' rfl X'
    exact ⟨t2, st t2 a1, b1⟩
  · subst hE
    obtain ⟨k1, k2, k3⟩ := vx_keep h0 e1 hS hA hf hL hF
    obtain ⟨t2, a1, b1⟩ := kx ce q w1 T'.heap (locs ++ L) hp (by rw [e1]; exact hb) hd k2 k3 (by rw [e1]; exact hce) hcv hcl T' rfl X'
    exact ⟨t2, st.trans a1, b1⟩
end VXc
section VXd
variable {w : vWd} {M : vMet} {k n pc : Nat} {L : List (Nat × Value)} {st : List Value} {ws : va_W}
variable {M' : vMet} {na idx d mc ms b q0 ci d1 mc1 ms1 s0 e0 h0 : Nat} {As rest : List Value} {wc wr : va_W} {Q Q1 : Option Value → va_W → Prop} {XP : va_W → Prop} {fs : List Value} {cl : vw_C}
/-- a call that may throw, under this method's only row of its table -/
theorem V_virtT (hM : M.1.cls = "CashDeriverLaw") (hd : vdec M pc (.invokevirtual idx) 3) (hl : vLk M.1.cls idx M' na) (hC : Cx w M' d mc ms (.ref b :: As) wc Q XP) (hna : As.length = na) (hst : st = As.reverse ++ .ref b :: rest) (hrm : (rest.map fun v => v.category).sum ≤ 8) (hp : ws.Perm (wc ++ wr)) (q0 : Nat) (hrc : wc[q0]? = some (b, .inr (ci, fs))) (hcl : vwCl[ci]? = some cl) (hc1 : cl.1 = M'.1.cls) (hR : d + 1 ≤ d1 ∧ 19 + M'.2.2.1 + 64 * d ≤ 64 * d1) (hmc : k + mc ≤ mc1 ∧ n + ms ≤ ms1) (hcov : covers ⟨s0, e0, h0, 13⟩ pc = true)
    (hx : ∀ (w1 : va_W) (q : Nat), XP w1 → V w M (vct w d1 mc1 ms1 [(s0, e0, h0, 13)] Q1) (k + mc) (n + ms) h0 L [.ref q] (w1 ++ wr))
    (h : ∀ (r : Option Value) (w1 : va_W), Q r w1 → V w M (vct w d1 mc1 ms1 [(s0, e0, h0, 13)] Q1) (k + mc) (n + ms) (pc + 3) L (r.toList ++ rest) (w1 ++ wr)) : V w M (vct w d1 mc1 ms1 [(s0, e0, h0, 13)] Q1) k n pc L st ws := by
  intro p e s m args below meth c A H locs ls o E hP hD hS hlv
  subst hst
  have hP' := va_P_perm hp hP
  have hD' := va_D_perm hp hD
  obtain ⟨l1, l2, l3, l4, l5, l6⟩ := hl
  obtain ⟨hxx, hb, hr, hml, hown, hts, hlocks, hK, hX, hA, hnm⟩ := id o
  have hFc := v_free hD' hS hA
  have hrecv := va_recv hK (va_P_left hP') hcl hrc
  rw [hc1] at hrecv
  refine v_callX (vx_runV (C := M'.1.cls) (As := As) (rest := rest) ⟨hxx, hb, hml, hown, hts⟩ (hC H.size) ⟨v_callB hts l1 l4 l5 l6 hR, hts _ l2, hts _ l3⟩ ⟨v_blind, hrecv, v_pre hK hX hA hP' hD' hS⟩ rfl hna hlv.1 rfl (lv_room hrm) hd hmc) hS (fun q _ h => hFc q h) hFc ?_ ?_
  · intro ce q9 w1 H1 locs1 hq hP1 hD1 hk1 hS1 hce hcv hcl9 T hT X
    obtain ⟨j1, j2⟩ := v_join hP' hD' hk1 hFc hP1 hD1
    have htb : c.exceptionTable.toList = [⟨s0, e0, h0, 13⟩] := E m below meth c X.frames X.method X.code
    have hown' := hown
    rw [hM] at hown'
    exact vx_catch (own := "CashDeriverLaw") (name := nse) (E := nse) hown' [] ⟨s0, e0, h0, 13⟩ [] htb (fun z hz => nomatch hz) hcov (show (13 : Nat) ≠ 0 by decide) (hts _ x_ll) (va_Nw.use rfl hX.2.2.2.2.2.2.2.2.1) hce hcv hcl9 (hx w1 q9 hq p e s m args below meth c A H1 locs1 ls o E j1 j2 hS1 hlv) T hT X
  · intro r w1 H1 locs1 hq hP1 hD1 hk1 hS1
    obtain ⟨j1, j2⟩ := v_join hP' hD' hk1 hFc hP1 hD1
    exact h r w1 hq p e s m args below meth c A H1 locs1 ls o E j1 j2 hS1 hlv
end VXd
/-- a static method with a table, as a class names it -/
def vLt (own : String) (idx : Nat) (M' : vMet) (hh : List (Nat × Nat × Nat × Nat)) (na : Nat) : Prop :=
  Cond.methodLink own idx M'.1 ∈ TT ∧ Cond.static M'.1 ∈ TT ∧ Cond.initialized M'.1.cls ∈ TT ∧ Cond.codeWith M'.1 M'.2.1 M'.2.2.1 M'.2.2.2 hh ∈ TT ∧ (M'.1.cls ≠ "java/lang/invoke/MethodHandle" ∧ M'.1.cls ≠ "java/lang/invoke/VarHandle" ∧ (parseMethodDescriptor M'.1.desc).map (fun d => d.parameters.length) = some na)
section VXs
variable {w : vWd} {M : vMet} {C : vCtx} {k n pc : Nat} {L : List (Nat × Value)} {st : List Value} {ws : va_W}
variable {M' : vMet} {hh : List (Nat × Nat × Nat × Nat)} {na idx d mc ms b q0 ci : Nat} {As rest : List Value} {wc wr : va_W} {Q : Option Value → va_W → Prop}
theorem V_statT (hd : vdec M pc (.invokestatic idx) 3) (hl : vLt M.1.cls idx M' hh na) (hC : CtT w M' hh d mc ms As wc Q) (hna : As.length = na) (hst : st = As.reverse ++ rest) (hrm : (rest.map fun v => v.category).sum ≤ 8) (hp : ws.Perm (wc ++ wr)) (hR : d + 1 ≤ C.1.frames ∧ 19 + M'.2.2.1 + 64 * d ≤ C.1.locals) (hmc : k + mc ≤ C.1.cells ∧ n + ms ≤ C.1.slots)
    (h : ∀ (r : Option Value) (w1 : va_W), Q r w1 → V w M C (k + mc) (n + ms) (pc + 3) L (r.toList ++ rest) (w1 ++ wr)) : V w M C k n pc L st ws := by
  intro p e s m args below meth c A H locs ls o E hP hD hS hlv
  subst hst
  have hP' := va_P_perm hp hP
  have hD' := va_D_perm hp hD
  obtain ⟨l1, l2, l4, l5, l6⟩ := hl
  obtain ⟨hx, hb, hr, hml, hown, hts, hlocks, hK, hX, hA, hnm⟩ := id o
  have hFc := v_free hD' hS hA
  have hG : GoodIn TT (va_wsS M.1.cls idx M'.1 (vwsT M' hh)) := by
    intro x hx
    have hm : x ∈ TT := by
      rcases List.mem_append.mp hx with h1 | h1
      · rcases List.mem_cons.mp h1 with h2 | h2
        · rw [h2]; exact l1
        rcases List.mem_cons.mp h2 with h3 | h3
        · rw [h3]; exact l2
        rcases List.mem_cons.mp h3 with h4 | h4
        · rw [h4]; exact l4
        · cases h4
      · rcases List.mem_cons.mp h1 with h2 | h2
        · rw [h2]; exact l5
        · exact h2
    exact ⟨hm, good_of_word (TT_good hm)⟩
  refine v_call (vx_runSW (As := As) (rest := rest) ⟨hx, hb, hml, hown, hts⟩ (hC H.size) (vx_cwSW na hts hG rfl rfl rfl l6 ⟨hR.1, by show 8 + (M'.2.2.1 + 11) + 64 * d ≤ C.1.locals; omega⟩) ⟨v_blind, v_pre hK hX hA hP' hD' hS⟩ rfl hna hlv.1 rfl (lv_room hrm) hd hmc) hS (fun q _ h => hFc q h) hFc ?_
  intro r w1 H1 locs1 hq hP1 hD1 hk1 hS1
  obtain ⟨j1, j2⟩ := v_join hP' hD' hk1 hFc hP1 hD1
  exact h r w1 hq p e s m args below meth c A H1 locs1 ls o E j1 j2 hS1 hlv
theorem V_look {dflt : Int} {ps : Array (Int × Int)} {len : Nat} {x : Int32} {off : Int} (tgt : Nat) (hd : vdec M pc (.lookupswitch dflt ps) len) (hp : (ps.toList.zip (ps.toList.drop 1)).all (fun (a, next) => a.1 < next.1) = true) (ho : Op.lookupswitch.offset ps.toList dflt x.toInt = off) (ht : (pc : Int) + off = (tgt : Int)) (h : V w M C k n tgt L st ws) : V w M C k n pc L (.int x :: st) ws :=
  fun p e s m args below meth c A H locs ls o E hP hD hS hl => lv_lookup o.1 o.2.1 hd hp ho ht (h p e s m args below meth c A H locs ls o E hP hD hS hl)
end VXs
theorem lL_46 : vLt RL 46 mL_account [(0, 10, 13, 13)] 4 := ⟨TT_at 869 (by decide +kernel) rfl, TT_at 870 (by decide +kernel) rfl, TT_at 71 (by decide +kernel) rfl, TT_at 871 (by decide +kernel) rfl, by decide, by decide, by decide +kernel⟩
theorem lL_55 : vLt RL 55 mL_journal [(0, 10, 13, 13)] 4 := ⟨TT_at 946 (by decide +kernel) rfl, TT_at 947 (by decide +kernel) rfl, TT_at 71 (by decide +kernel) rfl, TT_at 948 (by decide +kernel) rfl, by decide, by decide, by decide +kernel⟩
