/-! 40: constructors of Book and CashDeriver -/
/-- the book under construction: i journals stand -/
def bF (aj : Nat → Nat → Nat) (i : Nat) : Nat → Option Nat := fun j => if j < i then some (aj j 0) else none
def bC (w : vWd) (b q1 q2 q3 q4 : Nat) (f : Nat → Option Nat) : va_W :=
  [(b, .inr (1, [.ref q1, .ref q2, .ref q3, .ref q4, .int 0, .int 0])), (q1, .inl (vA w 0, 12, .inl (fun _ => 0))), (q2, .inl (vA w 0, 12, .inl (fun _ => 0))), (q3, .inl (vA w 0, 12, .inl (fun _ => 0))), (q4, .inl (vA w 3, 30, .inr (.inr (.inr (.inr f)))))]
def bJ (w : vWd) (aj : Nat → Nat → Nat) (i : Nat) : va_W := (List.range i).flatMap (fun n => cJ w (aj n) J0)
theorem bF_s (aj : Nat → Nat → Nat) (i : Nat) (a : Nat → Nat) : bF (uX aj i a) (i + 1) = va_up (bF aj i) i (some (a 0)) := by
  funext j
  unfold bF va_up
  by_cases h : j = i
  · subst h
    simp [uX_s]
  · by_cases h2 : j < i
    · simp [h, h2, uX_n h, show j < i + 1 by omega]
    · simp [h, h2, show ¬ j < i + 1 by omega]
theorem bJ_s (w : vWd) (aj : Nat → Nat → Nat) (i : Nat) (a : Nat → Nat) : bJ w (uX aj i a) (i + 1) = bJ w aj i ++ cJ w a J0 := by
  unfold bJ
  rw [List.range_succ, List.flatMap_append]
  have e : (List.range i).flatMap (fun n => cJ w (uX aj i a n) J0) = (List.range i).flatMap (fun n => cJ w (aj n) J0) := by
    rw [List.flatMap_def, List.flatMap_def]
    congr 1
    refine List.map_congr_left fun n hn => ?_
    rw [uX_n (Nat.ne_of_lt (List.mem_range.mp hn))]
  rw [e]
  simp [uX_s]
abbrev B0 : BP := (0, 0, fun _ _ => 0, fun _ => J0)
set_option maxRecDepth 100000 in
set_option maxHeartbeats 4000000 in
theorem c_B_loop {w : vWd} {b q1 q2 q3 q4 : Nat} : ∀ (m i : Nat) (aj : Nat → Nat → Nat), i + m = 30 → V w mX1_init (vc w 2 214 1476 (fun r x => r = none ∧ ∃ (ab : Nat → Nat) (aj : Nat → Nat → Nat), ab 0 = b ∧ x = cB w ab aj B0)) (4 + 7 * i) (66 + 47 * i) 49 [(0, .ref b), (1, .int (nI i))] [] (bC w b q1 q2 q3 q4 (bF aj i) ++ bJ w aj i) := by
  intro m
  induction m with
  | zero =>
    intro i aj hi
    have e : i = 30 := by omega
    subst e
    refine V_iload_n dX1_init_49 1 rfl ?_
    refine V_bipush 30 dX1_init_50 (by decide) ?_
    refine V_icmp_ge_t 74 dX1_init_52 (by decide) (by decide) ?_
    refine V.cells (ws' := cB w (fun i => [b, q1, q2, q3, q4].getD i 0) aj B0) ?_ (fun H hP => ?_) ?_
    · rfl
    · refine va_P_mono hP (fun q hq => ?_)
      rcases List.mem_append.mp hq with h | h
      · rcases List.mem_cons.mp h with h | h
        · exact Or.inr (by rw [h]; exact List.mem_cons_self)
        rcases List.mem_cons.mp h with h | h
        · exact Or.inr (by rw [h]; exact List.mem_append_left _ (List.mem_cons_of_mem _ List.mem_cons_self))
        rcases List.mem_cons.mp h with h | h
        · exact Or.inr (by rw [h]; exact List.mem_append_left _ (List.mem_cons_of_mem _ (List.mem_cons_of_mem _ List.mem_cons_self)))
        rcases List.mem_cons.mp h with h | h
        · exact Or.inr (by rw [h]; exact List.mem_append_left _ (List.mem_cons_of_mem _ (List.mem_cons_of_mem _ (List.mem_cons_of_mem _ List.mem_cons_self))))
        rcases List.mem_cons.mp h with h | h
        · left
          rw [h]
          refine va_at_q (f := bF aj 30) (fun i hi => ?_) (va_P_iff.mp hP (q4, .inl (vA w 3, 30, .inr (.inr (.inr (.inr (bF aj 30)))))) (List.mem_append_left _ (List.mem_cons_of_mem _ (List.mem_cons_of_mem _ (List.mem_cons_of_mem _ (List.mem_cons_of_mem _ List.mem_cons_self))))))
          simp [bF, hi]
        · cases h
      · exact Or.inr (List.mem_append_right _ h)
    · exact V_vret dX1_init_74 rfl (nb rfl) (nb rfl) ⟨rfl, _, aj, rfl, rfl⟩
  | succ m ih =>
    intro i aj hi
    refine V_iload_n dX1_init_49 1 rfl ?_
    refine V_bipush 30 dX1_init_50 (by decide) ?_
    refine V_icmp_ge_n i 30 74 dX1_init_52 (by decide) (by omega) (by omega) (fun h => absurd h (by omega)) (fun h30 => ?_)
    refine V_aload_n dX1_init_55 0 rfl ?_
    refine V_get dX1_init_56 fX1_23 0 rfl rfl ?_
    refine V_iload_n dX1_init_59 1 rfl ?_
    refine V_new dX1_init_60 nX1_21 (by simp only [Bool.and_eq_true]; exact ⟨Nat.ble_eq_true_of_le (show 4 + 7 * i + 1 ≤ 214 by omega), Nat.ble_eq_true_of_le (show 66 + 47 * i + 11 ≤ 1476 by omega)⟩) (fun q => ?_)
    refine V_dup dX1_init_63 rfl ?_
    refine V_initN (wc := [(q, .inr (2, [.null, .null, .null, .null, .null, .null, .int 0, .int 0, .int 0, .int 0, .int 0]))]) (wr := bC w b q1 q2 q3 q4 (bF aj i) ++ bJ w aj i) (rest := [.ref q, .int (nI i), .ref q4]) (As := []) dX1_init_64 lX1_34 c_J_init rfl rfl (nb rfl) List.perm_append_comm ⟨nb rfl, nb rfl⟩ ⟨show 4 + 7 * i + 1 + 6 ≤ 214 by omega, show 66 + 47 * i + 11 + 36 ≤ 1476 by omega⟩ (fun r w1 hq => ?_)
    obtain ⟨rfl, a, ha, rfl⟩ := hq
    subst ha
    refine V_aast (j := i) (ws' := cJ w a J0 ++ (bC w b q1 q2 q3 q4 (va_up (bF aj i) i (some (a 0))) ++ bJ w aj i)) dX1_init_67 11 0 rfl rfl (v_in rfl h30 rfl).2 (v_in rfl h30 rfl).1 rfl ?_
    refine V.perm (ws' := bC w b q1 q2 q3 q4 (bF (uX aj i a) (i + 1)) ++ bJ w (uX aj i a) (i + 1)) ?_ ?_
    · rw [bF_s, bJ_s]
      exact List.perm_append_comm.trans (List.Perm.of_eq (List.append_assoc _ _ _))
    · refine V_iinc (nI (i + 1)) dX1_init_68 1 rfl (nI_i1 i) rfl (L' := [(0, .ref b), (1, .int (nI (i + 1)))]) rfl ?_
      refine V_goto 49 dX1_init_71 (by decide) ?_
      have := ih (i + 1) (uX aj i a) (by omega)
      rw [show 4 + 7 * (i + 1) = 4 + 7 * i + 1 + 6 by omega, show 66 + 47 * (i + 1) = 66 + 47 * i + 11 + 36 by omega] at this
      exact this
set_option maxRecDepth 100000 in
set_option maxHeartbeats 4000000 in
theorem c_B_init {w : vWd} {b : Nat} : Ct w mX1_init 2 214 1476 [.ref (b)] ([(b, .inr (1, [.null, .null, .null, .null, .int 0, .int 0]))]) (fun r x => r = none ∧ ∃ (ab : Nat → Nat) (aj : Nat → Nat → Nat), ab 0 = b ∧ x = cB w ab aj B0) := by
  refine Ct.of (L := [(0, .ref (b))]) (by decide) rfl rfl ?_
  refine V_aload_n dX1_init_0 0 rfl ?_
  refine V_oi dX1_init_1 oiX1 rfl ?_
  refine V_aload_n dX1_init_4 0 rfl ?_
  refine V_bipush 12 dX1_init_5 (by decide) ?_
  refine V_newI 12 dX1_init_7 (by decide) (by decide) rfl rfl (fun q7 => ?_)
  refine V_putF dX1_init_9 rfl pX1_9 0 rfl rfl rfl rfl (ws' := [(b, .inr (1, [.ref (q7), .null, .null, .null, .int 0, .int 0])), (q7, .inl (vA w 0, 12, .inl (fun _ => 0)))]) rfl ?_
  refine V_aload_n dX1_init_12 0 rfl ?_
  refine V_bipush 12 dX1_init_13 (by decide) ?_
  refine V_newI 12 dX1_init_15 (by decide) (by decide) rfl rfl (fun q15 => ?_)
  refine V_putF dX1_init_17 rfl pX1_15 0 rfl rfl rfl rfl (ws' := [(b, .inr (1, [.ref (q7), .ref (q15), .null, .null, .int 0, .int 0])), (q7, .inl (vA w 0, 12, .inl (fun _ => 0))), (q15, .inl (vA w 0, 12, .inl (fun _ => 0)))]) rfl ?_
  refine V_aload_n dX1_init_20 0 rfl ?_
  refine V_bipush 12 dX1_init_21 (by decide) ?_
  refine V_newI 12 dX1_init_23 (by decide) (by decide) rfl rfl (fun q23 => ?_)
  refine V_putF dX1_init_25 rfl pX1_18 0 rfl rfl rfl rfl (ws' := [(b, .inr (1, [.ref (q7), .ref (q15), .ref (q23), .null, .int 0, .int 0])), (q7, .inl (vA w 0, 12, .inl (fun _ => 0))), (q15, .inl (vA w 0, 12, .inl (fun _ => 0))), (q23, .inl (vA w 0, 12, .inl (fun _ => 0)))]) rfl ?_
  refine V_aload_n dX1_init_28 0 rfl ?_
  refine V_bipush 30 dX1_init_29 (by decide) ?_
  refine V_newq 30 dX1_init_31 qX1_21 (by decide) (by decide) rfl rfl (fun q31 => ?_)
  refine V_putF dX1_init_34 rfl pX1_23 0 rfl rfl rfl rfl (ws' := [(b, .inr (1, [.ref (q7), .ref (q15), .ref (q23), .ref (q31), .int 0, .int 0])), (q7, .inl (vA w 0, 12, .inl (fun _ => 0))), (q15, .inl (vA w 0, 12, .inl (fun _ => 0))), (q23, .inl (vA w 0, 12, .inl (fun _ => 0))), (q31, .inl (vA w 3, 30, .inr (.inr (.inr (.inr (fun _ => none))))))]) rfl ?_
  refine V_aload_n dX1_init_37 0 rfl ?_
  refine V_iconst 0 dX1_init_38 (by decide) ?_
  refine V_put dX1_init_39 pX1_27 0 rfl rfl rfl rfl (ws' := [(b, .inr (1, [.ref (q7), .ref (q15), .ref (q23), .ref (q31), .int 0, .int 0])), (q7, .inl (vA w 0, 12, .inl (fun _ => 0))), (q15, .inl (vA w 0, 12, .inl (fun _ => 0))), (q23, .inl (vA w 0, 12, .inl (fun _ => 0))), (q31, .inl (vA w 3, 30, .inr (.inr (.inr (.inr (fun _ => none))))))]) rfl ?_
  refine V_aload_n dX1_init_42 0 rfl ?_
  refine V_iconst 0 dX1_init_43 (by decide) ?_
  refine V_put dX1_init_44 pX1_31 0 rfl rfl rfl rfl (ws' := [(b, .inr (1, [.ref (q7), .ref (q15), .ref (q23), .ref (q31), .int 0, .int 0])), (q7, .inl (vA w 0, 12, .inl (fun _ => 0))), (q15, .inl (vA w 0, 12, .inl (fun _ => 0))), (q23, .inl (vA w 0, 12, .inl (fun _ => 0))), (q31, .inl (vA w 3, 30, .inr (.inr (.inr (.inr (fun _ => none))))))]) rfl ?_
  refine V_iconst 0 dX1_init_47 (by decide) ?_
  refine V_istore_n dX1_init_48 rfl (L' := [(0, .ref (b)), (1, .int 0)]) rfl ?_
  have e0 : bF (fun _ _ => 0) 0 = fun _ => none := by
    funext j
    simp [bF]
  refine V_ws (ws' := bC w b q7 q15 q23 q31 (bF (fun _ _ => 0) 0) ++ bJ w (fun _ _ => 0) 0) (by rw [e0]; rfl) ?_
  exact c_B_loop 30 0 (fun _ _ => 0) rfl

/-- where a CashDeriver and its parts lie: itself, tape, reader, parter, tracer (and its rows), acts -/
abbrev DW : Type := Nat × (Nat → Nat) × Nat × (Nat → Nat) × (Nat → Nat) × (Nat → Nat) × (Nat → Nat)
/-- where a book lies -/
abbrev DB : Type := (Nat → Nat) × (Nat → Nat → Nat)
/-- the parter's rows -/
abbrev GP : Type := (Nat → Nat) × (Nat → Int32) × (Nat → Int32)
def dO (D : DW) (b c : DB) : Nat × va_E := (D.1, .inr (7, [.ref (D.2.1 0), .ref D.2.2.1, .ref (D.2.2.2.1 0), .ref (D.2.2.2.2.1 0), .ref (D.2.2.2.2.2.2 0), .ref (b.1 0), .ref (c.1 0)]))
def cD (w : vWd) (D : DW) (b c : DB) (T : TP) (P : RP) (G : GP) (Q : SP) (A : AP) (B E : BP) : va_W :=
  dO D b c :: (cT w D.2.1 T ++ ([rC D.2.2.1 (D.2.1 0) P] ++ (cP w D.2.2.2.1 G.1 G.2.1 G.2.2 ++ (cQ w D.2.2.2.2.1 D.2.2.2.2.2.1 Q ++ (cA w D.2.2.2.2.2.2 A ++ (cB w b.1 b.2 B ++ cB w c.1 c.2 E))))))
abbrev G0 : GP := (fun _ => 0, fun _ => 0, fun _ => 0)
abbrev Q0 : SP := (0, 0, fun _ => 0, fun _ => 0, fun _ _ => 0)
theorem v_pull (x y z : va_W) : (x ++ (y ++ z)).Perm (y ++ (x ++ z)) := by
  rw [← List.append_assoc, ← List.append_assoc]
  exact List.Perm.append_right z List.perm_append_comm
set_option maxRecDepth 100000 in
set_option maxHeartbeats 4000000 in
theorem c_D_init {w : vWd} {b : Nat} : Ct w mX7_init 3 476 4119 [.ref (b)] ([(b, .inr (7, [.null, .null, .null, .null, .null, .null, .null]))]) (fun r x => r = none ∧ ∃ (D : DW) (b1 b2 : DB), D.1 = b ∧ x = cD w D b1 b2 (0, fun _ => 0) (0, 0, 0, 0, 0, 0, 0) G0 Q0 (0, fun _ _ => 0) B0 B0) := by
  refine Ct.of (L := [(0, .ref (b))]) (by decide) rfl rfl ?_
  refine V_aload_n dX7_init_0 0 rfl ?_
  refine V_oi dX7_init_1 oiX7 rfl ?_
  refine V_aload_n dX7_init_4 0 rfl ?_
  refine V_new dX7_init_5 nX7_9 rfl (fun z4 => ?_)
  refine V_dup dX7_init_8 rfl ?_
  refine V_initN (wc := [(z4, .inr (5, [.null, .int 0]))]) (wr := (b, .inr (7, [.null, .null, .null, .null, .null, .null, .null])) :: []) (rest := [.ref z4, .ref b]) (As := []) dX7_init_9 lX7_11 c_T_init rfl rfl (nb rfl) List.perm_append_comm ⟨nb rfl, nb rfl⟩ ⟨nb rfl, nb rfl⟩ (fun zr zw hq => ?_)
  obtain ⟨rfl, t, hz, rfl⟩ := hq
  subst hz
  refine V.perm (ws' := (b, .inr (7, [.null, .null, .null, .null, .null, .null, .null])) :: ([] ++ cT w t (0, fun _ => 0))) List.perm_append_comm ?_
  refine V_putF dX7_init_12 rfl pX7_12 0 rfl rfl rfl rfl (ws' := (b, .inr (7, [.ref (t 0), .null, .null, .null, .null, .null, .null])) :: ([] ++ cT w t (0, fun _ => 0))) rfl ?_
  refine V_aload_n dX7_init_15 0 rfl ?_
  refine V_new dX7_init_16 nX7_16 rfl (fun z15 => ?_)
  refine V_dup dX7_init_19 rfl ?_
  refine V_aload_n dX7_init_20 0 rfl ?_
  refine V_get dX7_init_21 fX7_12 0 rfl rfl ?_
  refine V_init (wc := [(z15, .inr (4, [.null, .int 0, .int 0, .int 0, .int 0, .int 0, .int 0, .int 0]))]) (wr := (b, .inr (7, [.ref (t 0), .null, .null, .null, .null, .null, .null])) :: ([] ++ cT w t (0, fun _ => 0))) (rest := [.ref z15, .ref b]) (As := [.ref (t 0)]) dX7_init_24 lX7_18 c_R_init rfl rfl (nb rfl) List.perm_append_comm ⟨nb rfl, nb rfl⟩ ⟨nb rfl, nb rfl⟩ (fun zr zw hq => ?_)
  obtain ⟨rfl, rfl⟩ := hq
  refine V.perm (ws' := (b, .inr (7, [.ref (t 0), .null, .null, .null, .null, .null, .null])) :: (([] ++ cT w t (0, fun _ => 0)) ++ [rC z15 (t 0) (0, 0, 0, 0, 0, 0, 0)])) List.perm_append_comm ?_
  refine V_putF dX7_init_27 rfl pX7_21 0 rfl rfl rfl rfl (ws' := (b, .inr (7, [.ref (t 0), .ref (z15), .null, .null, .null, .null, .null])) :: (([] ++ cT w t (0, fun _ => 0)) ++ [rC z15 (t 0) (0, 0, 0, 0, 0, 0, 0)])) rfl ?_
  refine V_aload_n dX7_init_30 0 rfl ?_
  refine V_new dX7_init_31 nX7_25 rfl (fun z30 => ?_)
  refine V_dup dX7_init_34 rfl ?_
  refine V_initN (wc := [(z30, .inr (3, [.null, .null, .null]))]) (wr := (b, .inr (7, [.ref (t 0), .ref (z15), .null, .null, .null, .null, .null])) :: (([] ++ cT w t (0, fun _ => 0)) ++ [rC z15 (t 0) (0, 0, 0, 0, 0, 0, 0)])) (rest := [.ref z30, .ref b]) (As := []) dX7_init_35 lX7_27 c_P_init rfl rfl (nb rfl) List.perm_append_comm ⟨nb rfl, nb rfl⟩ ⟨nb rfl, nb rfl⟩ (fun zr zw hq => ?_)
  obtain ⟨rfl, p, hz, rfl⟩ := hq
  subst hz
  refine V.perm (ws' := (b, .inr (7, [.ref (t 0), .ref (z15), .null, .null, .null, .null, .null])) :: ((([] ++ cT w t (0, fun _ => 0)) ++ [rC z15 (t 0) (0, 0, 0, 0, 0, 0, 0)]) ++ cP w p (fun _ => 0) (fun _ => 0) (fun _ => 0))) List.perm_append_comm ?_
  refine V_putF dX7_init_38 rfl pX7_28 0 rfl rfl rfl rfl (ws' := (b, .inr (7, [.ref (t 0), .ref (z15), .ref (p 0), .null, .null, .null, .null])) :: ((([] ++ cT w t (0, fun _ => 0)) ++ [rC z15 (t 0) (0, 0, 0, 0, 0, 0, 0)]) ++ cP w p (fun _ => 0) (fun _ => 0) (fun _ => 0))) rfl ?_
  refine V_aload_n dX7_init_41 0 rfl ?_
  refine V_new dX7_init_42 nX7_32 rfl (fun z41 => ?_)
  refine V_dup dX7_init_45 rfl ?_
  refine V_initN (wc := [(z41, .inr (6, [.null, .null, .null, .int 0, .int 0]))]) (wr := (b, .inr (7, [.ref (t 0), .ref (z15), .ref (p 0), .null, .null, .null, .null])) :: ((([] ++ cT w t (0, fun _ => 0)) ++ [rC z15 (t 0) (0, 0, 0, 0, 0, 0, 0)]) ++ cP w p (fun _ => 0) (fun _ => 0) (fun _ => 0))) (rest := [.ref z41, .ref b]) (As := []) dX7_init_46 lX7_34 c_Q_init rfl rfl (nb rfl) List.perm_append_comm ⟨nb rfl, nb rfl⟩ ⟨nb rfl, nb rfl⟩ (fun zr zw hq => ?_)
  obtain ⟨rfl, q, sr, hz, rfl⟩ := hq
  subst hz
  refine V.perm (ws' := (b, .inr (7, [.ref (t 0), .ref (z15), .ref (p 0), .null, .null, .null, .null])) :: (((([] ++ cT w t (0, fun _ => 0)) ++ [rC z15 (t 0) (0, 0, 0, 0, 0, 0, 0)]) ++ cP w p (fun _ => 0) (fun _ => 0) (fun _ => 0)) ++ cQ w q sr Q0)) List.perm_append_comm ?_
  refine V_putF dX7_init_49 rfl pX7_35 0 rfl rfl rfl rfl (ws' := (b, .inr (7, [.ref (t 0), .ref (z15), .ref (p 0), .ref (q 0), .null, .null, .null])) :: (((([] ++ cT w t (0, fun _ => 0)) ++ [rC z15 (t 0) (0, 0, 0, 0, 0, 0, 0)]) ++ cP w p (fun _ => 0) (fun _ => 0) (fun _ => 0)) ++ cQ w q sr Q0)) rfl ?_
  refine V_aload_n dX7_init_52 0 rfl ?_
  refine V_new dX7_init_53 nX7_39 rfl (fun z52 => ?_)
  refine V_dup dX7_init_56 rfl ?_
  refine V_initN (wc := [(z52, .inr (0, [.null, .null, .null, .int 0]))]) (wr := (b, .inr (7, [.ref (t 0), .ref (z15), .ref (p 0), .ref (q 0), .null, .null, .null])) :: (((([] ++ cT w t (0, fun _ => 0)) ++ [rC z15 (t 0) (0, 0, 0, 0, 0, 0, 0)]) ++ cP w p (fun _ => 0) (fun _ => 0) (fun _ => 0)) ++ cQ w q sr Q0)) (rest := [.ref z52, .ref b]) (As := []) dX7_init_57 lX7_41 c_A_init rfl rfl (nb rfl) List.perm_append_comm ⟨nb rfl, nb rfl⟩ ⟨nb rfl, nb rfl⟩ (fun zr zw hq => ?_)
  obtain ⟨rfl, a, hz, rfl⟩ := hq
  subst hz
  refine V.perm (ws' := (b, .inr (7, [.ref (t 0), .ref (z15), .ref (p 0), .ref (q 0), .null, .null, .null])) :: ((((([] ++ cT w t (0, fun _ => 0)) ++ [rC z15 (t 0) (0, 0, 0, 0, 0, 0, 0)]) ++ cP w p (fun _ => 0) (fun _ => 0) (fun _ => 0)) ++ cQ w q sr Q0) ++ cA w a (0, fun _ _ => 0))) List.perm_append_comm ?_
  refine V_putF dX7_init_60 rfl pX7_42 0 rfl rfl rfl rfl (ws' := (b, .inr (7, [.ref (t 0), .ref (z15), .ref (p 0), .ref (q 0), .ref (a 0), .null, .null])) :: ((((([] ++ cT w t (0, fun _ => 0)) ++ [rC z15 (t 0) (0, 0, 0, 0, 0, 0, 0)]) ++ cP w p (fun _ => 0) (fun _ => 0) (fun _ => 0)) ++ cQ w q sr Q0) ++ cA w a (0, fun _ _ => 0))) rfl ?_
  refine V_aload_n dX7_init_63 0 rfl ?_
  refine V_new dX7_init_64 nX7_46 rfl (fun z63 => ?_)
  refine V_dup dX7_init_67 rfl ?_
  refine V_init (wc := [(z63, .inr (1, [.null, .null, .null, .null, .int 0, .int 0]))]) (wr := (b, .inr (7, [.ref (t 0), .ref (z15), .ref (p 0), .ref (q 0), .ref (a 0), .null, .null])) :: ((((([] ++ cT w t (0, fun _ => 0)) ++ [rC z15 (t 0) (0, 0, 0, 0, 0, 0, 0)]) ++ cP w p (fun _ => 0) (fun _ => 0) (fun _ => 0)) ++ cQ w q sr Q0) ++ cA w a (0, fun _ _ => 0))) (rest := [.ref z63, .ref b]) (As := []) dX7_init_68 lX7_48 c_B_init rfl rfl (nb rfl) List.perm_append_comm ⟨nb rfl, nb rfl⟩ ⟨nb rfl, nb rfl⟩ (fun zr zw hq => ?_)
  obtain ⟨rfl, ab, aj, hz, rfl⟩ := hq
  subst hz
  refine V.perm (ws' := (b, .inr (7, [.ref (t 0), .ref (z15), .ref (p 0), .ref (q 0), .ref (a 0), .null, .null])) :: (((((([] ++ cT w t (0, fun _ => 0)) ++ [rC z15 (t 0) (0, 0, 0, 0, 0, 0, 0)]) ++ cP w p (fun _ => 0) (fun _ => 0) (fun _ => 0)) ++ cQ w q sr Q0) ++ cA w a (0, fun _ _ => 0)) ++ cB w ab aj B0)) List.perm_append_comm ?_
  refine V_put dX7_init_71 pX7_49 0 rfl rfl rfl rfl (ws' := (b, .inr (7, [.ref (t 0), .ref (z15), .ref (p 0), .ref (q 0), .ref (a 0), .ref (ab 0), .null])) :: (((((([] ++ cT w t (0, fun _ => 0)) ++ [rC z15 (t 0) (0, 0, 0, 0, 0, 0, 0)]) ++ cP w p (fun _ => 0) (fun _ => 0) (fun _ => 0)) ++ cQ w q sr Q0) ++ cA w a (0, fun _ _ => 0)) ++ cB w ab aj B0)) rfl ?_
  refine V_aload_n dX7_init_74 0 rfl ?_
  refine V_new dX7_init_75 nX7_46 rfl (fun z74 => ?_)
  refine V_dup dX7_init_78 rfl ?_
  refine V_init (wc := [(z74, .inr (1, [.null, .null, .null, .null, .int 0, .int 0]))]) (wr := (b, .inr (7, [.ref (t 0), .ref (z15), .ref (p 0), .ref (q 0), .ref (a 0), .ref (ab 0), .null])) :: (((((([] ++ cT w t (0, fun _ => 0)) ++ [rC z15 (t 0) (0, 0, 0, 0, 0, 0, 0)]) ++ cP w p (fun _ => 0) (fun _ => 0) (fun _ => 0)) ++ cQ w q sr Q0) ++ cA w a (0, fun _ _ => 0)) ++ cB w ab aj B0)) (rest := [.ref z74, .ref b]) (As := []) dX7_init_79 lX7_48 c_B_init rfl rfl (nb rfl) List.perm_append_comm ⟨nb rfl, nb rfl⟩ ⟨nb rfl, nb rfl⟩ (fun zr zw hq => ?_)
  obtain ⟨rfl, ac, ak, hz, rfl⟩ := hq
  subst hz
  refine V.perm (ws' := (b, .inr (7, [.ref (t 0), .ref (z15), .ref (p 0), .ref (q 0), .ref (a 0), .ref (ab 0), .null])) :: ((((((([] ++ cT w t (0, fun _ => 0)) ++ [rC z15 (t 0) (0, 0, 0, 0, 0, 0, 0)]) ++ cP w p (fun _ => 0) (fun _ => 0) (fun _ => 0)) ++ cQ w q sr Q0) ++ cA w a (0, fun _ _ => 0)) ++ cB w ab aj B0) ++ cB w ac ak B0)) List.perm_append_comm ?_
  refine V_put dX7_init_82 pX7_53 0 rfl rfl rfl rfl (ws' := (b, .inr (7, [.ref (t 0), .ref (z15), .ref (p 0), .ref (q 0), .ref (a 0), .ref (ab 0), .ref (ac 0)])) :: ((((((([] ++ cT w t (0, fun _ => 0)) ++ [rC z15 (t 0) (0, 0, 0, 0, 0, 0, 0)]) ++ cP w p (fun _ => 0) (fun _ => 0) (fun _ => 0)) ++ cQ w q sr Q0) ++ cA w a (0, fun _ _ => 0)) ++ cB w ab aj B0) ++ cB w ac ak B0)) rfl ?_
  refine V_ws (ws' := cD w (b, t, z15, p, q, sr, a) (ab, aj) (ac, ak) (0, fun _ => 0) (0, 0, 0, 0, 0, 0, 0) G0 Q0 (0, fun _ _ => 0) B0 B0) ?_ ?_
  · unfold cD
    simp only [List.append_assoc, List.nil_append]
    rfl
  · exact V_vret dX7_init_85 rfl (nb rfl) (nb rfl) ⟨rfl, _, _, _, rfl, rfl⟩

