/-! 64: the law: what stands at its entry (the skeleton's), its rows -/
def R_law : String := "CashDeriverLaw"
def lw_P (b : Addr) (xs : List Int32) (args : Array Value) (s : State) : Prop := args = #[.ref b] ∧ s.IntsAt b xs ∧ xs.length ≤ 3072 ∧ (Jvm.Cond.and given_1 narrow_1).before args s = true
def lw_Q (_ : Array Value) (s : State) (o : Outcome) (t : State) : Prop := o = .returned (some (.int 1)) ∧ Framed s o t [] 601024 7293034
def lw_Z (below : List Frame) (a : Array Value) (s : State) : State → Prop := fun t => ∃ o, t.status = .running ∧ Ended t below o ∧ lw_Q a s o t
/-- the law's own end, with 1 on the stack, nothing written that was there before, its room as the claim has it -/
theorem lw_ret {p : Program} {l : Launch} {e : Env} {s : State} {m : MethodId} {below : List Frame} {meth : Method} {c : Code} {b : Nat} (hx : p.tables.exec = Jvm.exec) (hb : c.code = code) (hr : meth.sig.returnType = ret) (hlocks : meth.locks = false) {pc : Nat} {H : Heap} {ls : Array Slot} (hdg : decode code pc = .ok (.ireturn, 1)) : W p l e room_1 s m #[Value.ref b] below meth c H [] 601024 7293034 (lw_Z below #[Value.ref b] s) (F0 m pc ls [.int 1]) := by
  intro T hT X
  obtain ⟨fs, hret, hrun, hended, hW, hframe⟩ := X.leave (v := some (.int 1)) (hlocks := hlocks) (fun h => by rw [hr] at h; cases h)
  have hmeth' : T.vm.method? m = some meth := X.method'
  refine ⟨T.setFrames fs, ?_, .returned (some (.int 1)), hrun, hended, rfl, ⟨_, rfl⟩, hW, hframe⟩
  jvm_step X.here [X.here.top, hx, hb, hdg, hmeth', hr, ret, narrow_b1]
  (try refine ⟨rfl, ?_⟩); (try refine ⟨rfl, ?_⟩)
  first | (intro acts; rw [hret _ acts rfl rfl rfl]) | rw [hret _ _ rfl rfl rfl]
  exact Steps.refl _
/-- what holds at the law's entry: the machine, the code, the tables' words (any of lw_tbl by 'hts w (by decide +kernel)'), the script of L ints xs at the cell b, what the Statement gives of the start (any of its parts by flat_of_before) -/
def lw_At (p : Program) (s : State) (m : MethodId) (meth : Method) (c : Code) (b L : Nat) (xs : Nat → Int32) : Prop :=
  p.tables.exec = Jvm.exec ∧ c.code = code ∧ meth.sig.returnType = ret ∧ c.maxLocals = 7 ∧ s.vm.findClass R_law = some m.cls ∧ (∀ w ∈ lw_tbl, w.before #[Value.ref b] s = true) ∧ va_X b L xs s s.heap ∧ b < s.heap.size ∧ meth.locks = false ∧ (Jvm.Cond.and given_1 narrow_1).before #[Value.ref b] s = true
/-- the law's method; its name as the machine has it -/
abbrev mLw (nm : String) : vMet := (⟨RL, nm, "([I)Z"⟩, cL_law, 7, some .boolean)
abbrev lwC (b0 L : Nat) (xs : Nat → Int32) : vCtx := (room_1, fun s args below _ => lw_Z below args s, fun s args A => args = #[.ref b0] ∧ va_X b0 L xs s s.heap ∧ b0 < s.heap.size ∧ ∀ q, A q → s.heap.size ≤ q)
abbrev lwV (b0 : Nat) (D : DW) (a : Nat → Nat) (u i : Nat) : List (Nat × Value) := [(0, .ref b0), (1, .ref D.1), (2, .ref (a 0)), (3, .ref u), (4, .int (nI i))]
abbrev lwU (w : vWd) (u : Nat) (f : Nat → Int64) : va_W := [(u, .inl (vA w 2, 1, .inr (.inl f)))]
section LwR
variable {w : vWd} {M : vMet} {nm : String} {b0 L : Nat} {xs : Nat → Int32} {k n pc : Nat} {Lv : List (Nat × Value)} {st : List Value} {ws : va_W}
theorem V_sld {i : Int32} (j : Nat) (hd : vdec M pc (.iaload) 1) (hi : i = nI j) (hj : j < L) (hL : L ≤ 3072) (h : V w M (lwC b0 L xs) k n (pc + 1) Lv (.int (xs j) :: st) ws) : V w M (lwC b0 L xs) k n pc Lv (.int i :: .ref b0 :: st) ws := by
  intro p e s m args below meth c A H locs ls o E hP hD hS hl
  obtain ⟨ha, hX, hb, hA⟩ := id E
  refine va_sld o.1 o.2.1 hX hb (fun q => absurd (hA _ q) (Nat.not_le.mpr hb)) hS (by rw [hi]; exact vp_in_nI hj (by omega)) hd ?_
  rw [hi, nI_clamp (by omega)]
  exact h p e s m args below meth c A H locs ls o E hP hD hS hl
theorem V_slen (hd : vdec M pc (.arraylength) 1) (h : V w M (lwC b0 L xs) k n (pc + 1) Lv (.int (nI L) :: st) ws) : V w M (lwC b0 L xs) k n pc Lv (.ref b0 :: st) ws := by
  intro p e s m args below meth c A H locs ls o E hP hD hS hl
  obtain ⟨ha, hX, hb, hA⟩ := id E
  exact va_slen o.1 o.2.1 hX hb (fun q => absurd (hA _ q) (Nat.not_le.mpr hb)) hS hd (h p e s m args below meth c A H locs ls o E hP hD hS hl)
theorem V_lend (hd : vdec (mLw nm) pc (.ireturn) 1) (hk : k ≤ 601024) (hn : n ≤ 7293034) : V w (mLw nm) (lwC b0 L xs) k n pc Lv [.int 1] ws := by
  intro p e s m args below meth c A H locs ls o E hP hD hS hl
  obtain ⟨ha, hX, hb, hA⟩ := id E
  subst ha
  refine va_forget (fun q hq => hA _ (hS.2.2 q hq)) ?_
  exact W.widen hk hn (lw_ret o.1 o.2.1 o.2.2.1 o.2.2.2.2.2.2.1 hd)
/-- an int of the script as an argument -/
theorem V_arg {ki : Int} (i kk : Nat) (hki : Int32.ofInt ki = nI kk) (d0 : vdec M pc (.aload_n 0) 1) (d1 : vdec M (pc + 1) (.iload 4) 2) (d3 : vdec M (pc + 3) (.iconst ki) 1) (d4 : vdec M (pc + 4) (.iadd) 1) (d5 : vdec M (pc + 5) (.iaload) 1) (h0 : Lv[0]? = some (0, .ref b0)) (h4 : Lv[4]? = some (4, .int (nI i))) (hj : i + kk < L) (hL : L ≤ 3072) (h : V w M (lwC b0 L xs) k n (pc + 6) Lv (.int (xs (i + kk)) :: st) ws) : V w M (lwC b0 L xs) k n pc Lv st ws := by
  refine V_aload_n d0 0 h0 ?_
  refine V_iload d1 4 h4 ?_
  refine V_iconst (nI kk) d3 hki ?_
  refine V_iadd d4 ?_
  exact V_sld (i + kk) d5 (nI_add i kk) hj hL h
theorem V_cD {M' : vMet} {na idx d : Nat} {As : List Value} {D : DW} {v : Int32} {x x' r : va_W} (hd : vdec (mLw nm) pc (.invokevirtual idx) 3) (hl : vLk RL idx M' na) (hC : Ct w M' d 0 0 (.ref D.1 :: As) x (qE (some (.int v)) x')) (hx : ∃ fs, x[0]? = some (D.1, .inr (7, fs))) (hna : As.length = na) (hst : st = As.reverse ++ [.ref D.1]) (hc1 : RX7 = M'.1.cls) (hR : d + 1 ≤ room_1.frames ∧ 19 + M'.2.2.1 + 64 * d ≤ room_1.locals) (hk : k ≤ 601024) (hn : n ≤ 7293034) (h : V w (mLw nm) (lwC b0 L xs) k n (pc + 3) Lv [.int v] (x' ++ r)) : V w (mLw nm) (lwC b0 L xs) k n pc Lv st (x ++ r) := by
  obtain ⟨fs, hf⟩ := hx
  exact V_virtE (cl := (RX7, TX7, 7)) (wr := r) hd hl hC hna hst (by decide) (List.Perm.refl _) 0 hf rfl hc1 hR ⟨hk, hn⟩ (List.Perm.refl _) h
theorem V_cM {M' : vMet} {na idx d : Nat} {As rest : List Value} {a : Nat → Nat} {x y t : va_W} {Q : Option Value → va_W → Prop} (hd : vdec (mLw nm) pc (.invokevirtual idx) 3) (hl : vLk RL idx M' na) (hC : Ct w M' d 0 0 (.ref (a 0) :: As) y Q) (hy : ∃ fs, y[0]? = some (a 0, .inr (8, fs))) (hna : As.length = na) (hst : st = As.reverse ++ .ref (a 0) :: rest) (hrm : (rest.map fun v => v.category).sum ≤ 8) (hc1 : RX8 = M'.1.cls) (hR : d + 1 ≤ room_1.frames ∧ 19 + M'.2.2.1 + 64 * d ≤ room_1.locals) (hk : k ≤ 601024) (hn : n ≤ 7293034) (h : ∀ (r : Option Value) (y' : va_W), Q r y' → V w (mLw nm) (lwC b0 L xs) k n (pc + 3) Lv (r.toList ++ rest) (x ++ (y' ++ t))) : V w (mLw nm) (lwC b0 L xs) k n pc Lv st (x ++ (y ++ t)) := by
  obtain ⟨fs, hf⟩ := hy
  exact V_virt (cl := (RX8, TX8, 26)) (wr := x ++ t) hd hl hC hna hst hrm (v_pull x y t) 0 hf rfl hc1 hR ⟨hk, hn⟩ (fun r y' hq => V.perm (v_pull y' x t) (h r y' hq))
end LwR
/-- account and journal, which may throw: the law's own methods catch it -/
def PT (w : vWd) (D : DW) (a : Nat → Nat) (ML M' : vMet) (d' u : Nat) (f : Nat → Int64) (k1 k2 : Int32) (x y : va_W) : Prop :=
  ∃ (t v : Int32) (f' : Nat → Int64), CtT w ML [(0, 10, 13, 13)] 7 1 6 [.ref D.1, .int k1, .int k2, .ref u] (x ++ lwU w u f) (qE (some (.int t)) (x ++ lwU w u f')) ∧ Ct w M' d' 0 0 [.ref (a 0), .int k1, .int k2] y (fun r y' => r = some (.int v) ∧ LR w D a x y' ∧ Ct w mX8_thrown 0 0 0 [.ref (a 0)] y' (qE (some (.int t)) y')) ∧ (t = 0 → f' 0 = v.toInt64)
theorem p_account {w : vWd} {D : DW} {a : Nat → Nat} {x y : va_W} (hst : w.1.stackTraces = false) (h : LR w D a x y) (u : Nat) (f : Nat → Int64) (k1 k2 : Int32) : PT w D a mL_account mX8_account 6 u f k1 k2 x y := by
  obtain ⟨b, c, T, P, G, Q, A, B, E, th, Z, sn, gs, ps, X, rfl, rfl, hs⟩ := h
  have hB := hs.2.2.2.1
  have hl := c_L_account w D b c T P G Q A B E u f k1 k2 hst hB.1
  have hm := e_M_account w a th Z sn gs ps X k1 k2 B.1 B.2.1 (rNl B) (rLa B) (r_okN hB) (rNp B) (rNg B) (rCr B) (rDe B) (rMv B) (rGr B) (r_okP hB)
  rw [r_account hB k1 k2] at hm
  cases hc : dAcc B k1 k2 with
  | some v =>
    rw [hc] at hl hm
    refine ⟨0, v, vp_updL f 0 v.toInt64, hl, hm.imp (fun r z q => ?_), fun _ => rfl⟩
    obtain ⟨q1, gs', ps', X', rfl, s⟩ := q
    exact ⟨q1, LR.of (sR_same hs s), e_M_thrown w a 0 Z sn gs' ps' X'⟩
  | none =>
    rw [hc] at hl hm
    refine ⟨1, 0, f, hl, hm.imp (fun r z q => ?_), fun z => absurd z (by decide)⟩
    obtain ⟨q1, gs', ps', X', rfl, s⟩ := q
    exact ⟨q1, LR.of (sR_same hs s), e_M_thrown w a 1 Z sn gs' ps' X'⟩
theorem p_journal {w : vWd} {D : DW} {a : Nat → Nat} {x y : va_W} (hst : w.1.stackTraces = false) (h : LR w D a x y) (u : Nat) (f : Nat → Int64) (k1 k2 : Int32) : PT w D a mL_journal mX8_journal 13 u f k1 k2 x y := by
  obtain ⟨b, c, T, P, G, Q, A, B, E, th, Z, sn, gs, ps, X, rfl, rfl, hs⟩ := h
  have hB := hs.2.2.2.1
  have hl := c_L_journal w D b c T P G Q A B E u f k1 k2 hst hB.1
  have hm := e_M_journal w a th Z sn gs ps X k1 k2 B.1 B.2.1 (rNl B) (rLa B) (r_okN hB) (rNp B) (rNg B) (rCr B) (rDe B) (rMv B) (rGr B) (r_okP hB)
  rw [r_journal hB k1 k2] at hm
  cases hc : dJou B k1 k2 with
  | some v =>
    rw [hc] at hl hm
    refine ⟨0, v, vp_updL f 0 v.toInt64, hl, hm.imp (fun r z q => ?_), fun _ => rfl⟩
    obtain ⟨q1, gs', ps', X', rfl, s⟩ := q
    exact ⟨q1, LR.of (sR_same hs s), e_M_thrown w a 0 Z sn gs' ps' X'⟩
  | none =>
    rw [hc] at hl hm
    refine ⟨1, 0, f, hl, hm.imp (fun r z q => ?_), fun z => absurd z (by decide)⟩
    obtain ⟨q1, gs', ps', X', rfl, s⟩ := q
    exact ⟨q1, LR.of (sR_same hs s), e_M_thrown w a 1 Z sn gs' ps' X'⟩
