/-! 38: rows for new cells -/
theorem t_oi1 : Cond.instanceMethod Lib.objectInit ∈ TT := TT_at 96 (by decide +kernel) rfl
theorem t_oi2 : Cond.code Lib.objectInit ⟨#[0xb1]⟩ 1 none ∈ TT := TT_at 97 (by decide +kernel) rfl
theorem t_aci : Cond.arrayClass .int ∈ TT := TT_at 159 (by decide +kernel) rfl
theorem t_acb : Cond.arrayClass .byte ∈ TT := TT_at 111 (by decide +kernel) rfl
theorem t_acl : Cond.arrayClass .long ∈ TT := TT_at 1323 (by decide +kernel) rfl
theorem arrV_cg {c : ClassId} {N : Nat} {f g : Nat → Value} (h : ∀ i, i < N → f i = g i) : arrV c N f = arrV c N g := by
  have e : (fun j : Fin N => f j.val) = (fun j : Fin N => g j.val) := funext fun j => h j.val j.isLt
  unfold arrV
  rw [e]
def vOi (own : String) (idx : Nat) : Prop := Cond.methodLink own idx Lib.objectInit ∈ TT
/-- a class of ours, as a class names it for new -/
def vNc (own : String) (idx ci : Nat) (fs : List Value) : Prop :=
  ∃ (C : String) (T : u_T) (N : Nat) (ty : Nat → FieldType), vwCl[ci]? = some (C, T, N) ∧ (∀ x ∈ u_ws C T N, x ∈ TT) ∧ (∀ k, k < N → parseFieldDescriptor (T k).2.2.1 = some (ty k)) ∧ Cond.classLink own idx C ∈ TT ∧ Cond.instantiable C N ∈ TT ∧ Cond.initialized C ∈ TT ∧ (∀ j, j < N → defaultValue (ty j) = vp_V fs j) ∧ N = fs.length
section VNe
variable {w : vWd} {M : vMet} {C : vCtx} {k n pc : Nat} {L : List (Nat × Value)} {st : List Value} {ws : va_W}
theorem V_oi {idx a : Nat} (hd : vdec M pc (.invokespecial idx) 3) (hl : vOi M.1.cls idx) (hr : (Nat.ble 1 C.1.frames && Nat.ble ((st.map fun v => v.category).sum + 12) C.1.locals) = true) (h : V w M C k n (pc + 3) L st ws) : V w M C k n pc L (.ref a :: st) ws := by
  intro p e s m args below meth c A H locs ls o E hP hD hS hlv
  simp only [Bool.and_eq_true] at hr
  exact W.objInit o.1 o.2.1 o.2.2.2.2.1 (o.2.2.2.2.2.1 _ hl) (o.2.2.2.2.2.1 _ t_oi1) (o.2.2.2.2.2.1 _ t_oi2) rfl (by rw [o.2.2.2.1]; exact hlv.1) rfl hd (nb hr.1) (by show 2 * 0 + _ + 12 ≤ _; have := nb hr.2; omega) (h p e s m args below meth c A H locs ls o E hP hD hS hlv)
theorem V_newa {atype : ArrayType} {ty : FieldType} {x : Int32} {N : Nat} {a0 : vp_A} {cx : ClassId} (hd : vdec M pc (.newarray atype) 2) (t0 : Nat) (hm : Cond.arrayClass (newarray.typeOf atype) ∈ TT) (hty : newarray.typeOf atype = ty) (ht : (vT w)[t0]? = some (cx, ty)) (hRA : ∀ (U : State) (cA : ClassId), va_RA U cA ty → U.vm.findClass ("[" ++ ty.toString) = some cA) (ha : ∀ cA : ClassId, vp_cell cA a0 = arrV cA N (fun _ => defaultValue ty)) (hn : ¬ x < 0) (hN : x.toNatClampNeg = N) (hb : Nat.ble (N * componentBytes ty) 536870912 = true) (hmc : (Nat.ble (k + 1) C.1.cells && Nat.ble (n + N) C.1.slots) = true)
    (h : ∀ q : Nat, V w M C (k + 1) (n + N) (pc + 2) L (.ref q :: st) (ws ++ [(q, .inl (cx, a0))])) : V w M C k n pc L (.int x :: st) ws := by
  intro p e s m args below meth c A H locs ls o E hP hD hS hlv
  simp only [Bool.and_eq_true] at hmc
  have hK := o.2.2.2.2.2.2.2.1
  refine va_newa o.1 o.2.1 (o.2.2.2.2.2.1 _ hm) hty hK hP hD hS o.2.2.2.2.2.2.2.2.2.1 ha hn hN (nb hb) (nb hmc.1) (nb hmc.2) hd (fun q cA H1 hK1 hP1 hD1 hS1 => ?_)
  have e1 := hRA _ _ (hK1.2 5 (cA, ty) rfl).2
  have e2 := hRA _ _ (hK.2 t0 (cx, ty) ht).2
  have e3 : cA = cx := Option.some.inj (e1.symm.trans e2)
  subst e3
  exact h q p e s m args below meth c A H1 locs ls o E hP1 hD1 hS1 hlv
theorem V_newI {x : Int32} (N : Nat) (hd : vdec M pc (.newarray .int) 2) (hn : ¬ x < 0) (hN : x.toNatClampNeg = N) (hb : Nat.ble (N * 4) 536870912 = true) (hmc : (Nat.ble (k + 1) C.1.cells && Nat.ble (n + N) C.1.slots) = true)
    (h : ∀ q : Nat, V w M C (k + 1) (n + N) (pc + 2) L (.ref q :: st) (ws ++ [(q, .inl (vA w 0, N, .inl (fun _ => 0)))])) : V w M C k n pc L (.int x :: st) ws :=
  V_newa hd 0 t_aci rfl rfl (fun _ _ h => h) (fun cA => by rw [vp_cell_i]; rfl) hn hN hb hmc h
theorem V_newB {x : Int32} (N : Nat) (hd : vdec M pc (.newarray .byte) 2) (hn : ¬ x < 0) (hN : x.toNatClampNeg = N) (hb : Nat.ble (N * 1) 536870912 = true) (hmc : (Nat.ble (k + 1) C.1.cells && Nat.ble (n + N) C.1.slots) = true)
    (h : ∀ q : Nat, V w M C (k + 1) (n + N) (pc + 2) L (.ref q :: st) (ws ++ [(q, .inl (vA w 1, N, .inl (fun _ => 0)))])) : V w M C k n pc L (.int x :: st) ws :=
  V_newa hd 1 t_acb rfl rfl (fun _ _ h => h) (fun cA => by rw [vp_cell_i]; rfl) hn hN hb hmc h
theorem V_newL {x : Int32} (N : Nat) (hd : vdec M pc (.newarray .long) 2) (hn : ¬ x < 0) (hN : x.toNatClampNeg = N) (hb : Nat.ble (N * 8) 536870912 = true) (hmc : (Nat.ble (k + 1) C.1.cells && Nat.ble (n + N) C.1.slots) = true)
    (h : ∀ q : Nat, V w M C (k + 1) (n + N) (pc + 2) L (.ref q :: st) (ws ++ [(q, .inl (vA w 2, N, .inr (.inl (fun _ => 0))))])) : V w M C k n pc L (.int x :: st) ws :=
  V_newa hd 2 t_acl rfl rfl (fun _ _ h => h) (fun cA => by rw [vp_cell_l]; rfl) hn hN hb hmc h
theorem V_new {idx ci : Nat} {fs : List Value} (hd : vdec M pc (.new idx) 3) (hl : vNc M.1.cls idx ci fs) (hmc : (Nat.ble (k + 1) C.1.cells && Nat.ble (n + fs.length) C.1.slots) = true)
    (h : ∀ q : Nat, V w M C (k + 1) (n + fs.length) (pc + 3) L (.ref q :: st) (ws ++ [(q, .inr (ci, fs))])) : V w M C k n pc L st ws := by
  intro p e s m args below meth c A H locs ls o E hP hD hS hlv
  simp only [Bool.and_eq_true] at hmc
  obtain ⟨CC, T, N, ty, l1, l2, l3, l4, l5, l6, l7, l8⟩ := hl
  subst l8
  exact va_new o.1 o.2.1 o.2.2.2.2.2.1 l2 ty l3 o.2.2.2.2.1 (o.2.2.2.2.2.1 _ l4) (o.2.2.2.2.2.1 _ l5) (o.2.2.2.2.2.1 _ l6) o.2.2.2.2.2.2.2.1 hP hD hS o.2.2.2.2.2.2.2.2.2.1 l1 l7 (nb hmc.1) (nb hmc.2) hd (fun q H1 hP1 hD1 hS1 => h q p e s m args below meth c A H1 locs ls o E hP1 hD1 hS1 hlv)
theorem V_newq {idx : Nat} {x : Int32} (N : Nat) (hd : vdec M pc (.anewarray idx) 3) (hl : Cond.classLink M.1.cls idx "CashDeriver$Journal" ∈ TT) (hn : ¬ x < 0) (hN : x.toNatClampNeg = N) (hb : Nat.ble (N * 4) 536870912 = true) (hmc : (Nat.ble (k + 1) C.1.cells && Nat.ble (n + N) C.1.slots) = true)
    (h : ∀ q : Nat, V w M C (k + 1) (n + N) (pc + 3) L (.ref q :: st) (ws ++ [(q, .inl (vA w 3, N, .inr (.inr (.inr (.inr (fun _ => none))))))])) : V w M C k n pc L (.int x :: st) ws := by
  intro p e s m args below meth c A H locs ls o E hP hD hS hlv
  simp only [Bool.and_eq_true] at hmc
  have hK := o.2.2.2.2.2.2.2.1
  have hX := o.2.2.2.2.2.2.2.2.1
  refine va_newq o.1 o.2.1 o.2.2.2.2.1 (o.2.2.2.2.2.1 _ hl) hX.2.2.2.2.2.2.2.2.2.2.1 hK hP hD hS o.2.2.2.2.2.2.2.2.2.1 hn hN (nb hb) (nb hmc.1) (nb hmc.2) hd (fun q cA H1 hK1 hP1 hD1 hS1 => ?_)
  obtain ⟨-, -, -, -, -, e1⟩ := (hK1.2 5 (cA, .object "CashDeriver$Journal") rfl).2
  obtain ⟨-, -, -, -, -, e2⟩ := (hK.2 3 (vA w 3, .object "CashDeriver$Journal") rfl).2
  have e3 : cA = vA w 3 := Option.some.inj (e1.symm.trans e2)
  subst e3
  exact h q p e s m args below meth c A H1 locs ls o E hP1 hD1 hS1 hlv
theorem V_aast {a v N j : Nat} {i : Int32} {f : Nat → Option Nat} {vs : List Value} {ws' : va_W} (hd : vdec M pc (.aastore) 1) (q0 qk : Nat) (ha : ws[q0]? = some (a, .inl (vA w 3, N, .inr (.inr (.inr (.inr f)))))) (hv : ws[qk]? = some (v, .inr (2, vs))) (hi : i.toNatClampNeg = j) (hin : vp_in i N) (hw : ws.set q0 (a, .inl (vA w 3, N, .inr (.inr (.inr (.inr (va_up f j (some v))))))) = ws')
    (h : V w M C k n (pc + 1) L st ws') : V w M C k n pc L (.ref v :: .int i :: .ref a :: st) ws := by
  intro p e s m args below meth c A H locs ls o E hP hD hS hlv
  subst hi
  subst hw
  exact va_astq o.1 o.2.1 o.2.2.2.2.2.2.2.1 hP hD hS q0 3 qk 2 ha rfl hv rfl hin hd (fun H1 locs1 hP1 hD1 hS1 => h p e s m args below meth c A H1 locs1 ls o E hP1 hD1 hS1 hlv)
/-- other words for the same cells -/
theorem V.cells {ws' : va_W} (ha : ws.map (·.1) = ws'.map (·.1)) (hc : ∀ H : Heap, va_P (vD w) vwCl ws H → va_P (vD w) vwCl ws' H) (h : V w M C k n pc L st ws') : V w M C k n pc L st ws :=
  fun p e s m args below meth c A H locs ls o E hP hD hS hl => h p e s m args below meth c A H locs ls o E (hc H hP) (va_D_iff.mpr ⟨by rw [← ha]; exact (va_D_iff.mp hD).1, fun q hq => by
    have h1 : q.1 ∈ ws.map (·.1) := by rw [ha]; exact List.mem_map.mpr ⟨q, hq, rfl⟩
    obtain ⟨q', h2, h3⟩ := List.mem_map.mp h1
    rw [← h3]
    exact (va_D_iff.mp hD).2 q' h2⟩) hS hl
theorem va_P_mono {D : va_G} {cl : List vw_C} {ws ws' : va_W} {H : Heap} (h : va_P D cl ws H) (hs : ∀ q ∈ ws', va_at D cl q H ∨ q ∈ ws) : va_P D cl ws' H :=
  va_P_iff.mpr fun q hq => (hs q hq).elim id (fun z => va_P_iff.mp h q z)
/-- the places behind an array's end don't matter -/
theorem va_at_q {D : va_G} {cl : List vw_C} {a N : Nat} {c : ClassId} {f g : Nat → Option Nat} {H : Heap} (he : ∀ i, i < N → f i = g i) (h : va_at D cl (a, .inl (c, N, .inr (.inr (.inr (.inr f))))) H) : va_at D cl (a, .inl (c, N, .inr (.inr (.inr (.inr g))))) H := by
  show H[a]? = some (vp_cell _ _)
  have h' : H[a]? = some (vp_cell c (N, .inr (.inr (.inr (.inr f))))) := h
  rw [h', vp_cell_q, vp_cell_q]
  refine congrArg some (arrV_cg fun i hi => ?_)
  rw [he i hi]
/-- new int[N][K] -/
theorem V_mna {idx : Nat} {x y : Int32} (N K : Nat) (hd : vdec M pc (.multianewarray idx 2) 4) (hl : Cond.classLink M.1.cls idx "[[I" ∈ TT) (hx : ¬ x < 0) (hy : ¬ y < 0) (hN : x.toNatClampNeg = N) (hK' : y.toNatClampNeg = K) (hb : (Nat.ble (N * 4) 536870912 && Nat.ble (K * 4) 536870912) = true) (hmc : (Nat.ble (k + (1 + N)) C.1.cells && Nat.ble (n + (N + N * K)) C.1.slots) = true)
    (h : ∀ (q : Nat) (r : Nat → Nat), V w M C (k + 1 + N) (n + N + N * K) (pc + 4) L (.ref q :: st) (ws ++ (q, .inl (vA w 4, N, .inr (.inr (.inr (.inr (fun i => some (r i))))))) :: (List.range N).map (fun i => (r i, .inl (vA w 0, K, .inl (fun _ => 0)))))) : V w M C k n pc L (.int y :: .int x :: st) ws := by
  intro p e s m args below meth c A H locs ls o E hP hD hS hlv
  simp only [Bool.and_eq_true] at hmc hb
  have hK := o.2.2.2.2.2.2.2.1
  have hX := o.2.2.2.2.2.2.2.2.1
  refine va_mna (X := ws) (L := []) (f := fun _ => .inl (vA w 0, K, .inl (fun _ => 0))) (ty := .int) (cy := vA w 0) (z := (K, .inl (fun _ => 0))) o.1 o.2.1 o.2.2.2.2.1 (o.2.2.2.2.2.1 _ hl) hX.2.2.2.2.2.2.2.2.2.2.2 (o.2.2.2.2.2.1 _ t_aci) ((hK.2 0 _ rfl).2) hK (by simpa [va_pl] using hP) (by simpa [va_pl] using hD) hS o.2.2.2.2.2.2.2.2.2.1 hx hy hN hK' (nb hb.1) (nb hb.2) (by have := nb hb.2; omega) rfl rfl (nb hmc.1) (nb hmc.2) (fun cA => by rw [vp_cell_i]; exact arrV_new _ _ _) hd (fun q r cA H1 hr1 hr2 hK1 hP1 hD1 hS1 => ?_)
  have e1 : s.vm.findClass "[[I" = some cA := (hK1.2 5 (cA, .array .int) rfl).2
  have e2 : s.vm.findClass "[[I" = some (vA w 4) := (hK.2 4 (vA w 4, .array .int) rfl).2
  have e3 : cA = vA w 4 := Option.some.inj (e1.symm.trans e2)
  subst e3
  have ep : va_pl ([] ++ (List.range N).map r) (vr_up (fun _ => (.inl (vA w 0, K, .inl (fun _ => 0)) : va_E)) ((List.range N).map r) (.inl (vA w 0, K, .inl (fun _ => 0)))) = (List.range N).map (fun i => (r i, .inl (vA w 0, K, .inl (fun _ => 0)))) := by
    rw [va_pl, List.nil_append, List.map_map]
    refine List.map_congr_left fun i _ => ?_
    show (r i, _) = (r i, _)
    unfold vr_up
    split <;> rfl
  rw [ep] at hP1 hD1
  have hk2 := V.cells (ws := ws ++ [(q, .inl (vA w 4, N, .inr (.inr (.inr (.inr (fun i => if i < N then some (r i) else none))))))] ++ (List.range N).map (fun i => (r i, .inl (vA w 0, K, .inl (fun _ => 0))))) (by simp) (fun H2 hP2 => ?_) (h q r)
  · exact hk2 p e s m args below meth c A H1 locs ls o E hP1 hD1 hS1 hlv
  · refine va_P_mono hP2 (fun z hz => ?_)
    rcases List.mem_append.mp hz with h1 | h1
    · exact Or.inr (by simp [h1])
    · rcases List.mem_cons.mp h1 with h2 | h2
      · left
        rw [h2]
        refine va_at_q (fun i hi => ?_) (va_P_iff.mp hP2 (q, .inl (vA w 4, N, .inr (.inr (.inr (.inr (fun i => if i < N then some (r i) else none)))))) (by simp))
        simp [hi]
      · exact Or.inr (List.mem_append_right _ h2)
end VNe
theorem nX7_9 : vNc RX7 9 5 [.null, .int 0] := ⟨RX5, TX5, 2, tyX5, rfl, inX5, tyX5_ok, TT_at 98 (by decide +kernel) rfl, TT_at 99 (by decide +kernel) rfl, TT_at 73 (by decide +kernel) rfl, fun j hj => by rcases (show j = 0 ∨ j = 1 by omega) with rfl | rfl <;> rfl, rfl⟩
theorem nX7_16 : vNc RX7 16 4 [.null, .int 0, .int 0, .int 0, .int 0, .int 0, .int 0, .int 0] := ⟨RX4, TX4, 8, tyX4, rfl, inX4, tyX4_ok, TT_at 112 (by decide +kernel) rfl, TT_at 113 (by decide +kernel) rfl, TT_at 74 (by decide +kernel) rfl, fun j hj => by rcases (show j = 0 ∨ j = 1 ∨ j = 2 ∨ j = 3 ∨ j = 4 ∨ j = 5 ∨ j = 6 ∨ j = 7 by omega) with rfl | rfl | rfl | rfl | rfl | rfl | rfl | rfl <;> rfl, rfl⟩
theorem nX7_25 : vNc RX7 25 3 [.null, .null, .null] := ⟨RX3, TX3, 3, tyX3, rfl, inX3, tyX3_ok, TT_at 143 (by decide +kernel) rfl, TT_at 144 (by decide +kernel) rfl, TT_at 75 (by decide +kernel) rfl, fun j hj => by rcases (show j = 0 ∨ j = 1 ∨ j = 2 by omega) with rfl | rfl | rfl <;> rfl, rfl⟩
theorem nX7_32 : vNc RX7 32 6 [.null, .null, .null, .int 0, .int 0] := ⟨RX6, TX6, 5, tyX6, rfl, inX6, tyX6_ok, TT_at 160 (by decide +kernel) rfl, TT_at 161 (by decide +kernel) rfl, TT_at 76 (by decide +kernel) rfl, fun j hj => by rcases (show j = 0 ∨ j = 1 ∨ j = 2 ∨ j = 3 ∨ j = 4 by omega) with rfl | rfl | rfl | rfl | rfl <;> rfl, rfl⟩
theorem nX7_39 : vNc RX7 39 0 [.null, .null, .null, .int 0] := ⟨RX0, TX0, 4, tyX0, rfl, inX0, tyX0_ok, TT_at 184 (by decide +kernel) rfl, TT_at 185 (by decide +kernel) rfl, TT_at 77 (by decide +kernel) rfl, fun j hj => by rcases (show j = 0 ∨ j = 1 ∨ j = 2 ∨ j = 3 by omega) with rfl | rfl | rfl | rfl <;> rfl, rfl⟩
theorem nX7_46 : vNc RX7 46 1 [.null, .null, .null, .null, .int 0, .int 0] := ⟨RX1, TX1, 6, tyX1, rfl, inX1, tyX1_ok, TT_at 203 (by decide +kernel) rfl, TT_at 204 (by decide +kernel) rfl, TT_at 78 (by decide +kernel) rfl, fun j hj => by rcases (show j = 0 ∨ j = 1 ∨ j = 2 ∨ j = 3 ∨ j = 4 ∨ j = 5 by omega) with rfl | rfl | rfl | rfl | rfl | rfl <;> rfl, rfl⟩
theorem nX1_21 : vNc RX1 21 2 [.null, .null, .null, .null, .null, .null, .int 0, .int 0, .int 0, .int 0, .int 0] := ⟨RX2, TX2, 11, tyX2, rfl, inX2, tyX2_ok, TT_at 209 (by decide +kernel) rfl, TT_at 211 (by decide +kernel) rfl, TT_at 79 (by decide +kernel) rfl, fun j hj => by rcases (show j = 0 ∨ j = 1 ∨ j = 2 ∨ j = 3 ∨ j = 4 ∨ j = 5 ∨ j = 6 ∨ j = 7 ∨ j = 8 ∨ j = 9 ∨ j = 10 by omega) with rfl | rfl | rfl | rfl | rfl | rfl | rfl | rfl | rfl | rfl | rfl <;> rfl, rfl⟩
theorem nL_8 : vNc RL 8 7 [.null, .null, .null, .null, .null, .null, .null] := ⟨RX7, TX7, 7, tyX7, rfl, inX7, tyX7_ok, TT_at 90 (by decide +kernel) rfl, TT_at 91 (by decide +kernel) rfl, TT_at 72 (by decide +kernel) rfl, fun j hj => by rcases (show j = 0 ∨ j = 1 ∨ j = 2 ∨ j = 3 ∨ j = 4 ∨ j = 5 ∨ j = 6 by omega) with rfl | rfl | rfl | rfl | rfl | rfl | rfl <;> rfl, rfl⟩
theorem nL_19 : vNc RL 19 8 [.int 0, .null, .int 0, .int 0, .int 0, .int 0, .int 0, .int 0, .int 0, .int 0, .long 0, .null, .null, .null, .int 0, .int 0, .null, .null, .null, .int 0, .null, .null, .null, .null, .int 0, .null] := ⟨RX8, TX8, 26, tyX8, rfl, inX8, tyX8_ok, TT_at 980 (by decide +kernel) rfl, TT_at 974 (by decide +kernel) rfl, TT_at 80 (by decide +kernel) rfl, fun j hj => by rcases (show j = 0 ∨ j = 1 ∨ j = 2 ∨ j = 3 ∨ j = 4 ∨ j = 5 ∨ j = 6 ∨ j = 7 ∨ j = 8 ∨ j = 9 ∨ j = 10 ∨ j = 11 ∨ j = 12 ∨ j = 13 ∨ j = 14 ∨ j = 15 ∨ j = 16 ∨ j = 17 ∨ j = 18 ∨ j = 19 ∨ j = 20 ∨ j = 21 ∨ j = 22 ∨ j = 23 ∨ j = 24 ∨ j = 25 by omega) with rfl | rfl | rfl | rfl | rfl | rfl | rfl | rfl | rfl | rfl | rfl | rfl | rfl | rfl | rfl | rfl | rfl | rfl | rfl | rfl | rfl | rfl | rfl | rfl | rfl | rfl <;> rfl, rfl⟩
theorem oiX7 : vOi RX7 3 := TT_at 95 (by decide +kernel) rfl
theorem oiX5 : vOi RX5 1 := TT_at 103 (by decide +kernel) rfl
theorem oiX4 : vOi RX4 3 := TT_at 117 (by decide +kernel) rfl
theorem oiX3 : vOi RX3 3 := TT_at 148 (by decide +kernel) rfl
theorem oiX6 : vOi RX6 3 := TT_at 165 (by decide +kernel) rfl
theorem oiX0 : vOi RX0 3 := TT_at 189 (by decide +kernel) rfl
theorem oiX1 : vOi RX1 3 := TT_at 208 (by decide +kernel) rfl
theorem oiX2 : vOi RX2 3 := TT_at 215 (by decide +kernel) rfl
theorem oiX8 : vOi RX8 70 := TT_at 984 (by decide +kernel) rfl
theorem qX1_21 : Cond.classLink RX1 21 "CashDeriver$Journal" ∈ TT := TT_at 209 (by decide +kernel) rfl
theorem qX6_15 : Cond.classLink RX6 15 "[[I" ∈ TT := TT_at 166 (by decide +kernel) rfl
