/-! 06: calls, by contract, with the callee's cells cut out of the caller's bag -/
section VCa
variable {p : Program} {l : Launch} {e : Env} {R : Room} {s : State} {m : MethodId} {args : Array Value} {below : List Frame} {meth : Method} {c : Code} {H : Heap} {locs : List Loc} {cells slots : Nat} {Qf : State → Prop}
variable {pc : Nat} {ls : Array Slot} {rest st0 : List Value} {a : Array Value} {A0 A1 : Nat → Prop} {H0 : Heap} {mc ms : Nat} {free : Addr → Prop} {w : vWd} {Q : Option Value → va_W → Prop}
theorem v_call (hr : va_Run p l e R s m args below meth c H locs cells slots mc ms (F0 m pc ls st0) rest (vQ w Q A1 a) free) (hS : va_S A0 H0 H locs) (hA : ∀ q, q < H.size → A1 q → A0 q) (hf : ∀ q, free q → A0 q)
    (kk : ∀ (r : Option Value) (w1 : va_W) (H1 : Heap) (locs1 : List Loc), Q r w1 → va_P (vD w) vwCl w1 H1 → va_D A1 w1 → (∀ q : Nat, q < H.size → ¬ A1 q → H1[q]? = H[q]?) → va_S A0 H0 H1 locs1 → W p l e R s m args below meth c H1 locs1 (cells + mc) (slots + ms) Qf (F0 m (pc + 3) ls (r.toList ++ rest))) : W p l e R s m args below meth c H locs cells slots Qf (F0 m pc ls st0) := by
  intro T hT X
  obtain ⟨v, st₀, t, T', L, h0, X', hL, e1, e2, ⟨⟨r, w1, hv, hp, hb, hd⟩, hz, hk⟩, st⟩ := hr T hT X
  cases hv
  rw [h0] at hz hk
  obtain ⟨t2, a1, b1⟩ := kk v w1 T'.heap (locs ++ L) hp (by rw [e1]; exact hb) hd (fun q h1 h2 => by rw [e1]; exact hk q h1 h2)
    ⟨Nat.le_trans hS.1 (by rw [e1]; exact hz), fun q h1 h2 => by rw [e1, hk q (Nat.lt_of_lt_of_le h1 hS.1) (fun z => h2 (hA q (Nat.lt_of_lt_of_le h1 hS.1) z))]; exact hS.2.1 q h1 h2, fun q hq => by
      rcases List.mem_append.mp hq with h | h
      · exact hS.2.2 q h
      · exact hf _ (hL q h)⟩ T' rfl X'
  exact ⟨t2, st t2 a1, b1⟩
end VCa
/-- an instance method of a class of ours, as a class names it -/
def vLk (own : String) (idx : Nat) (M' : vMet) (na : Nat) : Prop :=
  Cond.methodLink own idx M'.1 ∈ TT ∧ Cond.instanceMethod M'.1 ∈ TT ∧ Cond.selects M'.1.cls M'.1 M'.1 ∈ TT ∧ Cond.initialized M'.1.cls ∈ TT ∧ Cond.code M'.1 M'.2.1 M'.2.2.1 M'.2.2.2 ∈ TT ∧ (M'.1.cls ≠ "java/lang/invoke/MethodHandle" ∧ M'.1.cls ≠ "java/lang/invoke/VarHandle" ∧ (parseMethodDescriptor M'.1.desc).map (fun d => d.parameters.length) = some na)
def vLs (own : String) (idx : Nat) (M' : vMet) (na : Nat) : Prop :=
  Cond.methodLink own idx M'.1 ∈ TT ∧ Cond.static M'.1 ∈ TT ∧ Cond.initialized M'.1.cls ∈ TT ∧ Cond.code M'.1 M'.2.1 M'.2.2.1 M'.2.2.2 ∈ TT ∧ (M'.1.cls ≠ "java/lang/invoke/MethodHandle" ∧ M'.1.cls ≠ "java/lang/invoke/VarHandle" ∧ (parseMethodDescriptor M'.1.desc).map (fun d => d.parameters.length) = some na)
def vLi (own : String) (idx : Nat) (M' : vMet) (na : Nat) : Prop :=
  Cond.methodLink own idx M'.1 ∈ TT ∧ Cond.instanceMethod M'.1 ∈ TT ∧ Cond.initialized M'.1.cls ∈ TT ∧ Cond.code M'.1 M'.2.1 M'.2.2.1 none ∈ TT ∧ (M'.1.cls ≠ "java/lang/invoke/MethodHandle" ∧ M'.1.cls ≠ "java/lang/invoke/VarHandle" ∧ (parseMethodDescriptor M'.1.desc).map (fun d => d.parameters.length) = some na) ∧ M'.1.name = "<init>" ∧ M'.2.2.2 = none
def vLn (own : String) (idx : Nat) (M' : vMet) (na : Nat) : Prop :=
  (∃ host, (own, idx, M'.1, host) ∈ vNest) ∧ Cond.instanceMethod M'.1 ∈ TT ∧ Cond.initialized M'.1.cls ∈ TT ∧ Cond.code M'.1 M'.2.1 M'.2.2.1 none ∈ TT ∧ (M'.1.cls ≠ "java/lang/invoke/MethodHandle" ∧ M'.1.cls ≠ "java/lang/invoke/VarHandle" ∧ (parseMethodDescriptor M'.1.desc).map (fun d => d.parameters.length) = some na) ∧ M'.1.name = "<init>" ∧ M'.2.2.2 = none
theorem v_goodIn {M' : vMet} (h : Cond.code M'.1 M'.2.1 M'.2.2.1 M'.2.2.2 ∈ TT) : GoodIn TT (vws M') := by
  intro x hx
  have hm : x ∈ TT := by
    rcases List.mem_cons.mp hx with h1 | h1
    · rw [h1]; exact h
    · exact h1
  exact ⟨hm, good_of_word (TT_good hm)⟩
theorem v_callB {R : Room} {s : State} {args : Array Value} {own : String} {idx na d mc ms : Nat} {M' : vMet} (hts : ∀ x ∈ TT, x.before args s = true) (hl : Cond.methodLink own idx M'.1 ∈ TT) (hini : Cond.initialized M'.1.cls ∈ TT) (hc : Cond.code M'.1 M'.2.1 M'.2.2.1 M'.2.2.2 ∈ TT) (hd : M'.1.cls ≠ "java/lang/invoke/MethodHandle" ∧ M'.1.cls ≠ "java/lang/invoke/VarHandle" ∧ (parseMethodDescriptor M'.1.desc).map (fun d => d.parameters.length) = some na) (hR : d + 1 ≤ R.frames ∧ 19 + M'.2.2.1 + 64 * d ≤ R.locals) : CallB R s args own idx M'.1 M'.2.1 M'.2.2.1 M'.2.2.2 (vws M') (vrm d mc ms) mc ms na :=
  callB_of na hts (v_goodIn hc) rfl rfl rfl (hts _ hini) (hts _ hl) hd ⟨hR.1, by show 8 + (M'.2.2.1 + 11) + 64 * d ≤ R.locals; omega⟩
theorem v_pre {w : vWd} {s : State} {H : Heap} {A : Nat → Prop} {wc wr : va_W} {locs : List Loc} {As : List Value} (hK : va_K (vD w) vwCl (vT w) s) (hX : vX w A s s.heap) (hA : ∀ q, s.heap.size ≤ q → A q) (hP : va_P (vD w) vwCl (wc ++ wr) H) (hD : va_D A (wc ++ wr)) (hS : va_S A s.heap H locs) :
    ∀ U : State, U.heap = H → s.WarmedH U.vm → va_Pc As (fun U => U.heap.size = H.size ∧ va_P (vD w) vwCl wc U.heap ∧ va_K (vD w) vwCl (vT w) U ∧ va_D (fun _ => True) wc ∧ vX w (va_A wc H.size) U U.heap) As.toArray U := by
  intro U hU hW
  refine ⟨rfl, by rw [hU], by rw [hU]; exact va_P_left hP, va_K.moved hW.alike hK, (va_D_left hD).weaken (fun _ _ _ _ => trivial), ?_⟩
  rw [hU]
  exact ((hX.kept hS.2.1).narrow (v_free hD hS hA)).warm hW
theorem v_blind {w : vWd} {wc : va_W} {sz : Nat} {As : List Value} : FrameBlind (va_Pc As (fun U => U.heap.size = sz ∧ va_P (vD w) vwCl wc U.heap ∧ va_K (vD w) vwCl (vT w) U ∧ va_D (fun _ => True) wc ∧ vX w (va_A wc sz) U U.heap)) := by
  intro a U g mk h
  obtain ⟨h1, h2, h3, h4, h5, h6⟩ := h
  exact ⟨h1, h2, h3, va_K.moved (u := U) (U := U.calling g mk a) (Vm.Alike.refl U.vm) h4, h5, vX.same (s := U) (U := U.calling g mk a) rfl h6⟩
section VCb
variable {w : vWd} {M : vMet} {C : vCtx} {k n pc : Nat} {L : List (Nat × Value)} {st : List Value} {ws : va_W}
variable {M' : vMet} {na idx d mc ms b q0 ci : Nat} {As rest : List Value} {wc wr : va_W} {Q : Option Value → va_W → Prop} {fs : List Value} {cl : vw_C}
theorem V_virt (hd : vdec M pc (.invokevirtual idx) 3) (hl : vLk M.1.cls idx M' na) (hC : Ct w M' d mc ms (.ref b :: As) wc Q) (hna : As.length = na) (hst : st = As.reverse ++ .ref b :: rest) (hrm : (rest.map fun v => v.category).sum ≤ 8) (hp : ws.Perm (wc ++ wr)) (q0 : Nat) (hrc : wc[q0]? = some (b, .inr (ci, fs))) (hcl : vwCl[ci]? = some cl) (hc1 : cl.1 = M'.1.cls) (hR : d + 1 ≤ C.1.frames ∧ 19 + M'.2.2.1 + 64 * d ≤ C.1.locals) (hmc : k + mc ≤ C.1.cells ∧ n + ms ≤ C.1.slots)
    (h : ∀ (r : Option Value) (w1 : va_W), Q r w1 → V w M C (k + mc) (n + ms) (pc + 3) L (r.toList ++ rest) (w1 ++ wr)) : V w M C k n pc L st ws := by
  intro p e s m args below meth c A H locs ls o E hP hD hS hlv
  subst hst
  have hP' := va_P_perm hp hP
  have hD' := va_D_perm hp hD
  obtain ⟨l1, l2, l3, l4, l5, l6⟩ := hl
  obtain ⟨hx, hb, hr, hml, hown, hts, hlocks, hK, hX, hA, hnm⟩ := id o
  have hFc := v_free hD' hS hA
  have hrecv := va_recv hK (va_P_left hP') hcl hrc
  rw [hc1] at hrecv
  refine v_call (va_runV (C := M'.1.cls) (As := As) (rest := rest) ⟨hx, hb, hml, hown, hts⟩ (hC H.size) ⟨v_callB hts l1 l4 l5 l6 hR, hts _ l2, hts _ l3⟩ ⟨v_blind, hrecv, v_pre hK hX hA hP' hD' hS⟩ rfl hna hlv.1 rfl (lv_room hrm) hd hmc) hS (fun q _ h => hFc q h) hFc ?_
  intro r w1 H1 locs1 hq hP1 hD1 hk1 hS1
  obtain ⟨j1, j2⟩ := v_join hP' hD' hk1 hFc hP1 hD1
  exact h r w1 hq p e s m args below meth c A H1 locs1 ls o E j1 j2 hS1 hlv
theorem V_stat (hd : vdec M pc (.invokestatic idx) 3) (hl : vLs M.1.cls idx M' na) (hC : Ct w M' d mc ms As wc Q) (hna : As.length = na) (hst : st = As.reverse ++ rest) (hrm : (rest.map fun v => v.category).sum ≤ 8) (hp : ws.Perm (wc ++ wr)) (hR : d + 1 ≤ C.1.frames ∧ 19 + M'.2.2.1 + 64 * d ≤ C.1.locals) (hmc : k + mc ≤ C.1.cells ∧ n + ms ≤ C.1.slots)
    (h : ∀ (r : Option Value) (w1 : va_W), Q r w1 → V w M C (k + mc) (n + ms) (pc + 3) L (r.toList ++ rest) (w1 ++ wr)) : V w M C k n pc L st ws := by
  intro p e s m args below meth c A H locs ls o E hP hD hS hlv
  subst hst
  have hP' := va_P_perm hp hP
  have hD' := va_D_perm hp hD
  obtain ⟨l1, l2, l4, l5, l6⟩ := hl
  obtain ⟨hx, hb, hr, hml, hown, hts, hlocks, hK, hX, hA, hnm⟩ := id o
  have hFc := v_free hD' hS hA
  refine v_call (va_runS (As := As) (rest := rest) ⟨hx, hb, hml, hown, hts⟩ (hC H.size) ⟨v_callB hts l1 l4 l5 l6 hR, hts _ l2⟩ ⟨v_blind, v_pre hK hX hA hP' hD' hS⟩ rfl hna hlv.1 rfl (lv_room hrm) hd hmc) hS (fun q _ h => hFc q h) hFc ?_
  intro r w1 H1 locs1 hq hP1 hD1 hk1 hS1
  obtain ⟨j1, j2⟩ := v_join hP' hD' hk1 hFc hP1 hD1
  exact h r w1 hq p e s m args below meth c A H1 locs1 ls o E j1 j2 hS1 hlv
theorem V_init (hd : vdec M pc (.invokespecial idx) 3) (hl : vLi M.1.cls idx M' na) (hC : Ct w M' d mc ms (.ref b :: As) wc Q) (hna : As.length = na) (hst : st = As.reverse ++ .ref b :: rest) (hrm : (rest.map fun v => v.category).sum ≤ 8) (hp : ws.Perm (wc ++ wr)) (hR : d + 1 ≤ C.1.frames ∧ 19 + M'.2.2.1 + 64 * d ≤ C.1.locals) (hmc : k + mc ≤ C.1.cells ∧ n + ms ≤ C.1.slots)
    (h : ∀ (r : Option Value) (w1 : va_W), Q r w1 → V w M C (k + mc) (n + ms) (pc + 3) L (r.toList ++ rest) (w1 ++ wr)) : V w M C k n pc L st ws := by
  intro p e s m args below meth c A H locs ls o E hP hD hS hlv
  subst hst
  have hP' := va_P_perm hp hP
  have hD' := va_D_perm hp hD
  obtain ⟨l1, l2, l4, l5, l6, l7, l8⟩ := hl
  obtain ⟨hx, hb, hr, hml, hown, hts, hlocks, hK, hX, hA, hnm⟩ := id o
  have hFc := v_free hD' hS hA
  have cb := v_callB (R := C.1) (d := d) (mc := mc) (ms := ms) hts l1 l4 (by rw [l8]; exact l5) l6 hR
  rw [l8] at cb
  refine v_call (va_runI (As := As) (rest := rest) ⟨hx, hb, hml, hown, hts⟩ (hC H.size) ⟨cb, l7, hts _ l2⟩ ⟨v_blind, v_pre hK hX hA hP' hD' hS⟩ rfl hna hlv.1 rfl (lv_room hrm) hd hmc) hS (fun q _ h => hFc q h) hFc ?_
  intro r w1 H1 locs1 hq hP1 hD1 hk1 hS1
  obtain ⟨j1, j2⟩ := v_join hP' hD' hk1 hFc hP1 hD1
  exact h r w1 hq p e s m args below meth c A H1 locs1 ls o E j1 j2 hS1 hlv
theorem V_initN (hd : vdec M pc (.invokespecial idx) 3) (hl : vLn M.1.cls idx M' na) (hC : Ct w M' d mc ms (.ref b :: As) wc Q) (hna : As.length = na) (hst : st = As.reverse ++ .ref b :: rest) (hrm : (rest.map fun v => v.category).sum ≤ 8) (hp : ws.Perm (wc ++ wr)) (hR : d + 1 ≤ C.1.frames ∧ 19 + M'.2.2.1 + 64 * d ≤ C.1.locals) (hmc : k + mc ≤ C.1.cells ∧ n + ms ≤ C.1.slots)
    (h : ∀ (r : Option Value) (w1 : va_W), Q r w1 → V w M C (k + mc) (n + ms) (pc + 3) L (r.toList ++ rest) (w1 ++ wr)) : V w M C k n pc L st ws := by
  intro p e s m args below meth c A H locs ls o E hP hD hS hlv
  subst hst
  have hP' := va_P_perm hp hP
  have hD' := va_D_perm hp hD
  obtain ⟨⟨host, l1⟩, l2, l4, l5, l6, l7, l8⟩ := hl
  obtain ⟨hx, hb, hr, hml, hown, hts, hlocks, hK, hX, hA, hnm⟩ := id o
  have hFc := v_free hD' hS hA
  refine v_call (va_runIN (host := host) (As := As) (rest := rest) ⟨hx, hb, hml, hown, hts⟩ (hC H.size) ⟨va_cnB na hts (v_goodIn (by rw [l8]; exact l5)) (by rw [vws, l8]) rfl rfl (hX.1 _ l1) (hts _ l4) l6 ⟨hR.1, by show 8 + (M'.2.2.1 + 11) + 64 * d ≤ C.1.locals; omega⟩, l7, hts _ l2⟩ ⟨v_blind, v_pre hK hX hA hP' hD' hS⟩ rfl hna hlv.1 rfl (lv_room hrm) hd hmc) hS (fun q _ h => hFc q h) hFc ?_
  intro r w1 H1 locs1 hq hP1 hD1 hk1 hS1
  obtain ⟨j1, j2⟩ := v_join hP' hD' hk1 hFc hP1 hD1
  exact h r w1 hq p e s m args below meth c A H1 locs1 ls o E j1 j2 hS1 hlv
/-- explicit ends: the callee answers v and leaves wc' -/
abbrev qE (v : Option Value) (wc' : va_W) : Option Value → va_W → Prop := fun r x => r = v ∧ x = wc'
theorem V_virtE {v : Option Value} {wc' ws' : va_W} (hd : vdec M pc (.invokevirtual idx) 3) (hl : vLk M.1.cls idx M' na) (hC : Ct w M' d 0 0 (.ref b :: As) wc (qE v wc')) (hna : As.length = na) (hst : st = As.reverse ++ .ref b :: rest) (hrm : (rest.map fun v => v.category).sum ≤ 8) (hp : ws.Perm (wc ++ wr)) (q0 : Nat) (hrc : wc[q0]? = some (b, .inr (ci, fs))) (hcl : vwCl[ci]? = some cl) (hc1 : cl.1 = M'.1.cls) (hR : d + 1 ≤ C.1.frames ∧ 19 + M'.2.2.1 + 64 * d ≤ C.1.locals) (hmc : k ≤ C.1.cells ∧ n ≤ C.1.slots) (hp' : (wc' ++ wr).Perm ws')
    (h : V w M C k n (pc + 3) L (v.toList ++ rest) ws') : V w M C k n pc L st ws :=
  V_virt hd hl hC hna hst hrm hp q0 hrc hcl hc1 hR hmc (fun r w1 hq => by obtain ⟨rfl, rfl⟩ := hq; exact V.perm hp' h)
/-- a call that leaves all cells as they are -/
theorem V_virtR {v : Option Value} (hd : vdec M pc (.invokevirtual idx) 3) (hl : vLk M.1.cls idx M' na) (hC : Ct w M' d 0 0 (.ref b :: As) wc (qE v wc)) (hna : As.length = na) (hst : st = As.reverse ++ .ref b :: rest) (hrm : (rest.map fun v => v.category).sum ≤ 8) (hp : ws.Perm (wc ++ wr)) (q0 : Nat) (hrc : wc[q0]? = some (b, .inr (ci, fs))) (hcl : vwCl[ci]? = some cl) (hc1 : cl.1 = M'.1.cls) (hR : d + 1 ≤ C.1.frames ∧ 19 + M'.2.2.1 + 64 * d ≤ C.1.locals) (hmc : k ≤ C.1.cells ∧ n ≤ C.1.slots)
    (h : V w M C k n (pc + 3) L (v.toList ++ rest) ws) : V w M C k n pc L st ws :=
  V_virtE hd hl hC hna hst hrm hp q0 hrc hcl hc1 hR hmc hp.symm h
theorem V_statE {v : Option Value} {wc' ws' : va_W} (hd : vdec M pc (.invokestatic idx) 3) (hl : vLs M.1.cls idx M' na) (hC : Ct w M' d 0 0 As wc (qE v wc')) (hna : As.length = na) (hst : st = As.reverse ++ rest) (hrm : (rest.map fun v => v.category).sum ≤ 8) (hp : ws.Perm (wc ++ wr)) (hR : d + 1 ≤ C.1.frames ∧ 19 + M'.2.2.1 + 64 * d ≤ C.1.locals) (hmc : k ≤ C.1.cells ∧ n ≤ C.1.slots) (hp' : (wc' ++ wr).Perm ws')
    (h : V w M C k n (pc + 3) L (v.toList ++ rest) ws') : V w M C k n pc L st ws :=
  V_stat hd hl hC hna hst hrm hp hR hmc (fun r w1 hq => by obtain ⟨rfl, rfl⟩ := hq; exact V.perm hp' h)
/-- a static method that touches no cell -/
theorem V_statR {v : Option Value} (hd : vdec M pc (.invokestatic idx) 3) (hl : vLs M.1.cls idx M' na) (hC : Ct w M' d 0 0 As [] (qE v [])) (hna : As.length = na) (hst : st = As.reverse ++ rest) (hrm : (rest.map fun v => v.category).sum ≤ 8) (hR : d + 1 ≤ C.1.frames ∧ 19 + M'.2.2.1 + 64 * d ≤ C.1.locals) (hmc : k ≤ C.1.cells ∧ n ≤ C.1.slots)
    (h : V w M C k n (pc + 3) L (v.toList ++ rest) ws) : V w M C k n pc L st ws :=
  V_statE (wr := ws) hd hl hC hna hst hrm (by simp) hR hmc (by simp) h
end VCb
