/-! 39: constructors -/
theorem v_tuck (f m : va_W) (x : Nat × va_E) : ((f ++ m) ++ [x]).Perm ((f ++ [x]) ++ m) := by
  rw [List.append_assoc, List.append_assoc]
  exact List.Perm.append_left f List.perm_append_comm
set_option maxRecDepth 100000 in
set_option maxHeartbeats 4000000 in
theorem c_T_init {w : vWd} {b : Nat} : Ct w mX5_init 1 1 640 [.ref (b)] ([(b, .inr (5, [.null, .int 0]))]) (fun r x => r = none ∧ ∃ a : Nat → Nat, a 0 = b ∧ x = cT w a (0, fun _ => 0)) := by
  refine Ct.of (L := [(0, .ref (b))]) (by decide) rfl rfl ?_
  refine V_aload_n dX5_init_0 0 rfl ?_
  refine V_oi dX5_init_1 oiX5 rfl ?_
  refine V_aload_n dX5_init_4 0 rfl ?_
  refine V_sipush 640 dX5_init_5 (by decide) ?_
  refine V_newB 640 dX5_init_8 (by decide) (by decide) rfl rfl (fun q8 => ?_)
  refine V_putF dX5_init_10 rfl pX5_9 0 rfl rfl rfl rfl (ws' := [(b, .inr (5, [.ref (q8), .int 0])), (q8, .inl (vA w 1, 640, .inl (fun _ => 0)))]) rfl ?_
  refine V_aload_n dX5_init_13 0 rfl ?_
  refine V_iconst 0 dX5_init_14 (by decide) ?_
  refine V_put dX5_init_15 pX5_13 0 rfl rfl rfl rfl (ws' := [(b, .inr (5, [.ref (q8), .int 0])), (q8, .inl (vA w 1, 640, .inl (fun _ => 0)))]) rfl ?_
  exact V_vret dX5_init_18 rfl (nb rfl) (nb rfl) ⟨rfl, fun i => [b, q8].getD i 0, rfl, rfl⟩

set_option maxRecDepth 100000 in
set_option maxHeartbeats 4000000 in
theorem c_A_init {w : vWd} {b : Nat} : Ct w mX0_init 1 3 30 [.ref (b)] ([(b, .inr (0, [.null, .null, .null, .int 0]))]) (fun r x => r = none ∧ ∃ a : Nat → Nat, a 0 = b ∧ x = cA w a (0, fun _ _ => 0)) := by
  refine Ct.of (L := [(0, .ref (b))]) (by decide) rfl rfl ?_
  refine V_aload_n dX0_init_0 0 rfl ?_
  refine V_oi dX0_init_1 oiX0 rfl ?_
  refine V_aload_n dX0_init_4 0 rfl ?_
  refine V_bipush 10 dX0_init_5 (by decide) ?_
  refine V_newI 10 dX0_init_7 (by decide) (by decide) rfl rfl (fun q7 => ?_)
  refine V_putF dX0_init_9 rfl pX0_11 0 rfl rfl rfl rfl (ws' := [(b, .inr (0, [.ref (q7), .null, .null, .int 0])), (q7, .inl (vA w 0, 10, .inl (fun _ => 0)))]) rfl ?_
  refine V_aload_n dX0_init_12 0 rfl ?_
  refine V_bipush 10 dX0_init_13 (by decide) ?_
  refine V_newI 10 dX0_init_15 (by decide) (by decide) rfl rfl (fun q15 => ?_)
  refine V_putF dX0_init_17 rfl pX0_15 0 rfl rfl rfl rfl (ws' := [(b, .inr (0, [.ref (q7), .ref (q15), .null, .int 0])), (q7, .inl (vA w 0, 10, .inl (fun _ => 0))), (q15, .inl (vA w 0, 10, .inl (fun _ => 0)))]) rfl ?_
  refine V_aload_n dX0_init_20 0 rfl ?_
  refine V_bipush 10 dX0_init_21 (by decide) ?_
  refine V_newI 10 dX0_init_23 (by decide) (by decide) rfl rfl (fun q23 => ?_)
  refine V_putF dX0_init_25 rfl pX0_18 0 rfl rfl rfl rfl (ws' := [(b, .inr (0, [.ref (q7), .ref (q15), .ref (q23), .int 0])), (q7, .inl (vA w 0, 10, .inl (fun _ => 0))), (q15, .inl (vA w 0, 10, .inl (fun _ => 0))), (q23, .inl (vA w 0, 10, .inl (fun _ => 0)))]) rfl ?_
  refine V_aload_n dX0_init_28 0 rfl ?_
  refine V_iconst 0 dX0_init_29 (by decide) ?_
  refine V_put dX0_init_30 pX0_21 0 rfl rfl rfl rfl (ws' := [(b, .inr (0, [.ref (q7), .ref (q15), .ref (q23), .int 0])), (q7, .inl (vA w 0, 10, .inl (fun _ => 0))), (q15, .inl (vA w 0, 10, .inl (fun _ => 0))), (q23, .inl (vA w 0, 10, .inl (fun _ => 0)))]) rfl ?_
  exact V_vret dX0_init_33 rfl (nb rfl) (nb rfl) ⟨rfl, fun i => [b, q7, q15, q23].getD i 0, rfl, rfl⟩

abbrev J0 : JP := (0, 0, 0, 0, false, fun _ _ => 0)
set_option maxRecDepth 100000 in
set_option maxHeartbeats 4000000 in
theorem c_J_init {w : vWd} {b : Nat} : Ct w mX2_init 1 6 36 [.ref (b)] ([(b, .inr (2, [.null, .null, .null, .null, .null, .null, .int 0, .int 0, .int 0, .int 0, .int 0]))]) (fun r x => r = none ∧ ∃ a : Nat → Nat, a 0 = b ∧ x = cJ w a J0) := by
  refine Ct.of (L := [(0, .ref (b))]) (by decide) rfl rfl ?_
  refine V_aload_n dX2_init_0 0 rfl ?_
  refine V_oi dX2_init_1 oiX2 rfl ?_
  refine V_aload_n dX2_init_4 0 rfl ?_
  refine V_bipush 6 dX2_init_5 (by decide) ?_
  refine V_newI 6 dX2_init_7 (by decide) (by decide) rfl rfl (fun q7 => ?_)
  refine V_putF dX2_init_9 rfl pX2_9 0 rfl rfl rfl rfl (ws' := [(b, .inr (2, [.ref (q7), .null, .null, .null, .null, .null, .int 0, .int 0, .int 0, .int 0, .int 0])), (q7, .inl (vA w 0, 6, .inl (fun _ => 0)))]) rfl ?_
  refine V_aload_n dX2_init_12 0 rfl ?_
  refine V_bipush 6 dX2_init_13 (by decide) ?_
  refine V_newI 6 dX2_init_15 (by decide) (by decide) rfl rfl (fun q15 => ?_)
  refine V_putF dX2_init_17 rfl pX2_15 0 rfl rfl rfl rfl (ws' := [(b, .inr (2, [.ref (q7), .ref (q15), .null, .null, .null, .null, .int 0, .int 0, .int 0, .int 0, .int 0])), (q7, .inl (vA w 0, 6, .inl (fun _ => 0))), (q15, .inl (vA w 0, 6, .inl (fun _ => 0)))]) rfl ?_
  refine V_aload_n dX2_init_20 0 rfl ?_
  refine V_bipush 6 dX2_init_21 (by decide) ?_
  refine V_newI 6 dX2_init_23 (by decide) (by decide) rfl rfl (fun q23 => ?_)
  refine V_putF dX2_init_25 rfl pX2_18 0 rfl rfl rfl rfl (ws' := [(b, .inr (2, [.ref (q7), .ref (q15), .ref (q23), .null, .null, .null, .int 0, .int 0, .int 0, .int 0, .int 0])), (q7, .inl (vA w 0, 6, .inl (fun _ => 0))), (q15, .inl (vA w 0, 6, .inl (fun _ => 0))), (q23, .inl (vA w 0, 6, .inl (fun _ => 0)))]) rfl ?_
  refine V_aload_n dX2_init_28 0 rfl ?_
  refine V_bipush 6 dX2_init_29 (by decide) ?_
  refine V_newI 6 dX2_init_31 (by decide) (by decide) rfl rfl (fun q31 => ?_)
  refine V_putF dX2_init_33 rfl pX2_21 0 rfl rfl rfl rfl (ws' := [(b, .inr (2, [.ref (q7), .ref (q15), .ref (q23), .ref (q31), .null, .null, .int 0, .int 0, .int 0, .int 0, .int 0])), (q7, .inl (vA w 0, 6, .inl (fun _ => 0))), (q15, .inl (vA w 0, 6, .inl (fun _ => 0))), (q23, .inl (vA w 0, 6, .inl (fun _ => 0))), (q31, .inl (vA w 0, 6, .inl (fun _ => 0)))]) rfl ?_
  refine V_aload_n dX2_init_36 0 rfl ?_
  refine V_bipush 6 dX2_init_37 (by decide) ?_
  refine V_newI 6 dX2_init_39 (by decide) (by decide) rfl rfl (fun q39 => ?_)
  refine V_putF dX2_init_41 rfl pX2_24 0 rfl rfl rfl rfl (ws' := [(b, .inr (2, [.ref (q7), .ref (q15), .ref (q23), .ref (q31), .ref (q39), .null, .int 0, .int 0, .int 0, .int 0, .int 0])), (q7, .inl (vA w 0, 6, .inl (fun _ => 0))), (q15, .inl (vA w 0, 6, .inl (fun _ => 0))), (q23, .inl (vA w 0, 6, .inl (fun _ => 0))), (q31, .inl (vA w 0, 6, .inl (fun _ => 0))), (q39, .inl (vA w 0, 6, .inl (fun _ => 0)))]) rfl ?_
  refine V_aload_n dX2_init_44 0 rfl ?_
  refine V_bipush 6 dX2_init_45 (by decide) ?_
  refine V_newI 6 dX2_init_47 (by decide) (by decide) rfl rfl (fun q47 => ?_)
  refine V_putF dX2_init_49 rfl pX2_27 0 rfl rfl rfl rfl (ws' := [(b, .inr (2, [.ref (q7), .ref (q15), .ref (q23), .ref (q31), .ref (q39), .ref (q47), .int 0, .int 0, .int 0, .int 0, .int 0])), (q7, .inl (vA w 0, 6, .inl (fun _ => 0))), (q15, .inl (vA w 0, 6, .inl (fun _ => 0))), (q23, .inl (vA w 0, 6, .inl (fun _ => 0))), (q31, .inl (vA w 0, 6, .inl (fun _ => 0))), (q39, .inl (vA w 0, 6, .inl (fun _ => 0))), (q47, .inl (vA w 0, 6, .inl (fun _ => 0)))]) rfl ?_
  refine V_aload_n dX2_init_52 0 rfl ?_
  refine V_iconst 0 dX2_init_53 (by decide) ?_
  refine V_put dX2_init_54 pX2_30 0 rfl rfl rfl rfl (ws' := [(b, .inr (2, [.ref (q7), .ref (q15), .ref (q23), .ref (q31), .ref (q39), .ref (q47), .int 0, .int 0, .int 0, .int 0, .int 0])), (q7, .inl (vA w 0, 6, .inl (fun _ => 0))), (q15, .inl (vA w 0, 6, .inl (fun _ => 0))), (q23, .inl (vA w 0, 6, .inl (fun _ => 0))), (q31, .inl (vA w 0, 6, .inl (fun _ => 0))), (q39, .inl (vA w 0, 6, .inl (fun _ => 0))), (q47, .inl (vA w 0, 6, .inl (fun _ => 0)))]) rfl ?_
  refine V_aload_n dX2_init_57 0 rfl ?_
  refine V_iconst 0 dX2_init_58 (by decide) ?_
  refine V_put dX2_init_59 pX2_34 0 rfl rfl rfl rfl (ws' := [(b, .inr (2, [.ref (q7), .ref (q15), .ref (q23), .ref (q31), .ref (q39), .ref (q47), .int 0, .int 0, .int 0, .int 0, .int 0])), (q7, .inl (vA w 0, 6, .inl (fun _ => 0))), (q15, .inl (vA w 0, 6, .inl (fun _ => 0))), (q23, .inl (vA w 0, 6, .inl (fun _ => 0))), (q31, .inl (vA w 0, 6, .inl (fun _ => 0))), (q39, .inl (vA w 0, 6, .inl (fun _ => 0))), (q47, .inl (vA w 0, 6, .inl (fun _ => 0)))]) rfl ?_
  refine V_aload_n dX2_init_62 0 rfl ?_
  refine V_iconst 0 dX2_init_63 (by decide) ?_
  refine V_put dX2_init_64 pX2_37 0 rfl rfl rfl rfl (ws' := [(b, .inr (2, [.ref (q7), .ref (q15), .ref (q23), .ref (q31), .ref (q39), .ref (q47), .int 0, .int 0, .int 0, .int 0, .int 0])), (q7, .inl (vA w 0, 6, .inl (fun _ => 0))), (q15, .inl (vA w 0, 6, .inl (fun _ => 0))), (q23, .inl (vA w 0, 6, .inl (fun _ => 0))), (q31, .inl (vA w 0, 6, .inl (fun _ => 0))), (q39, .inl (vA w 0, 6, .inl (fun _ => 0))), (q47, .inl (vA w 0, 6, .inl (fun _ => 0)))]) rfl ?_
  refine V_aload_n dX2_init_67 0 rfl ?_
  refine V_iconst 0 dX2_init_68 (by decide) ?_
  refine V_put dX2_init_69 pX2_40 0 rfl rfl rfl rfl (ws' := [(b, .inr (2, [.ref (q7), .ref (q15), .ref (q23), .ref (q31), .ref (q39), .ref (q47), .int 0, .int 0, .int 0, .int 0, .int 0])), (q7, .inl (vA w 0, 6, .inl (fun _ => 0))), (q15, .inl (vA w 0, 6, .inl (fun _ => 0))), (q23, .inl (vA w 0, 6, .inl (fun _ => 0))), (q31, .inl (vA w 0, 6, .inl (fun _ => 0))), (q39, .inl (vA w 0, 6, .inl (fun _ => 0))), (q47, .inl (vA w 0, 6, .inl (fun _ => 0)))]) rfl ?_
  refine V_aload_n dX2_init_72 0 rfl ?_
  refine V_iconst 0 dX2_init_73 (by decide) ?_
  refine V_put dX2_init_74 pX2_43 0 rfl rfl rfl rfl (ws' := [(b, .inr (2, [.ref (q7), .ref (q15), .ref (q23), .ref (q31), .ref (q39), .ref (q47), .int 0, .int 0, .int 0, .int 0, .int 0])), (q7, .inl (vA w 0, 6, .inl (fun _ => 0))), (q15, .inl (vA w 0, 6, .inl (fun _ => 0))), (q23, .inl (vA w 0, 6, .inl (fun _ => 0))), (q31, .inl (vA w 0, 6, .inl (fun _ => 0))), (q39, .inl (vA w 0, 6, .inl (fun _ => 0))), (q47, .inl (vA w 0, 6, .inl (fun _ => 0)))]) rfl ?_
  exact V_vret dX2_init_77 rfl (nb rfl) (nb rfl) ⟨rfl, fun i => [b, q7, q15, q23, q31, q39, q47].getD i 0, rfl, rfl⟩

set_option maxRecDepth 100000 in
set_option maxHeartbeats 4000000 in
theorem c_P_init {w : vWd} {b : Nat} : Ct w mX3_init 1 3 18 [.ref (b)] ([(b, .inr (3, [.null, .null, .null]))]) (fun r x => r = none ∧ ∃ a : Nat → Nat, a 0 = b ∧ x = cP w a (fun _ => 0) (fun _ => 0) (fun _ => 0)) := by
  refine Ct.of (L := [(0, .ref (b))]) (by decide) rfl rfl ?_
  refine V_aload_n dX3_init_0 0 rfl ?_
  refine V_oi dX3_init_1 oiX3 rfl ?_
  refine V_aload_n dX3_init_4 0 rfl ?_
  refine V_bipush 6 dX3_init_5 (by decide) ?_
  refine V_newI 6 dX3_init_7 (by decide) (by decide) rfl rfl (fun q7 => ?_)
  refine V_putF dX3_init_9 rfl pX3_9 0 rfl rfl rfl rfl (ws' := [(b, .inr (3, [.ref (q7), .null, .null])), (q7, .inl (vA w 0, 6, .inl (fun _ => 0)))]) rfl ?_
  refine V_aload_n dX3_init_12 0 rfl ?_
  refine V_bipush 6 dX3_init_13 (by decide) ?_
  refine V_newI 6 dX3_init_15 (by decide) (by decide) rfl rfl (fun q15 => ?_)
  refine V_putF dX3_init_17 rfl pX3_15 0 rfl rfl rfl rfl (ws' := [(b, .inr (3, [.ref (q7), .ref (q15), .null])), (q7, .inl (vA w 0, 6, .inl (fun _ => 0))), (q15, .inl (vA w 0, 6, .inl (fun _ => 0)))]) rfl ?_
  refine V_aload_n dX3_init_20 0 rfl ?_
  refine V_bipush 6 dX3_init_21 (by decide) ?_
  refine V_newI 6 dX3_init_23 (by decide) (by decide) rfl rfl (fun q23 => ?_)
  refine V_putF dX3_init_25 rfl pX3_18 0 rfl rfl rfl rfl (ws' := [(b, .inr (3, [.ref (q7), .ref (q15), .ref (q23)])), (q7, .inl (vA w 0, 6, .inl (fun _ => 0))), (q15, .inl (vA w 0, 6, .inl (fun _ => 0))), (q23, .inl (vA w 0, 6, .inl (fun _ => 0)))]) rfl ?_
  exact V_vret dX3_init_28 rfl (nb rfl) (nb rfl) ⟨rfl, fun i => [b, q7, q15, q23].getD i 0, rfl, rfl⟩

set_option maxRecDepth 100000 in
set_option maxHeartbeats 4000000 in
theorem c_R_init {w : vWd} {b : Nat} {t : Nat} : Ct w mX4_init 1 0 0 [.ref (b), .ref (t)] ([(b, .inr (4, [.null, .int 0, .int 0, .int 0, .int 0, .int 0, .int 0, .int 0]))]) (fun r x => r = none ∧ x = [rC b t (0, 0, 0, 0, 0, 0, 0)]) := by
  refine Ct.of (L := [(0, .ref (b)), (1, .ref (t))]) (by decide) rfl rfl ?_
  refine V_aload_n dX4_init_0 0 rfl ?_
  refine V_oi dX4_init_1 oiX4 rfl ?_
  refine V_aload_n dX4_init_4 0 rfl ?_
  refine V_iconst 0 dX4_init_5 (by decide) ?_
  refine V_put dX4_init_6 pX4_11 0 rfl rfl rfl rfl (ws' := [(b, .inr (4, [.null, .int 0, .int 0, .int 0, .int 0, .int 0, .int 0, .int 0]))]) rfl ?_
  refine V_aload_n dX4_init_9 0 rfl ?_
  refine V_iconst 0 dX4_init_10 (by decide) ?_
  refine V_put dX4_init_11 pX4_15 0 rfl rfl rfl rfl (ws' := [(b, .inr (4, [.null, .int 0, .int 0, .int 0, .int 0, .int 0, .int 0, .int 0]))]) rfl ?_
  refine V_aload_n dX4_init_14 0 rfl ?_
  refine V_iconst 0 dX4_init_15 (by decide) ?_
  refine V_put dX4_init_16 pX4_18 0 rfl rfl rfl rfl (ws' := [(b, .inr (4, [.null, .int 0, .int 0, .int 0, .int 0, .int 0, .int 0, .int 0]))]) rfl ?_
  refine V_aload_n dX4_init_19 0 rfl ?_
  refine V_iconst 0 dX4_init_20 (by decide) ?_
  refine V_put dX4_init_21 pX4_21 0 rfl rfl rfl rfl (ws' := [(b, .inr (4, [.null, .int 0, .int 0, .int 0, .int 0, .int 0, .int 0, .int 0]))]) rfl ?_
  refine V_aload_n dX4_init_24 0 rfl ?_
  refine V_iconst 0 dX4_init_25 (by decide) ?_
  refine V_put dX4_init_26 pX4_24 0 rfl rfl rfl rfl (ws' := [(b, .inr (4, [.null, .int 0, .int 0, .int 0, .int 0, .int 0, .int 0, .int 0]))]) rfl ?_
  refine V_aload_n dX4_init_29 0 rfl ?_
  refine V_iconst 0 dX4_init_30 (by decide) ?_
  refine V_put dX4_init_31 pX4_27 0 rfl rfl rfl rfl (ws' := [(b, .inr (4, [.null, .int 0, .int 0, .int 0, .int 0, .int 0, .int 0, .int 0]))]) rfl ?_
  refine V_aload_n dX4_init_34 0 rfl ?_
  refine V_iconst 0 dX4_init_35 (by decide) ?_
  refine V_put dX4_init_36 pX4_30 0 rfl rfl rfl rfl (ws' := [(b, .inr (4, [.null, .int 0, .int 0, .int 0, .int 0, .int 0, .int 0, .int 0]))]) rfl ?_
  refine V_aload_n dX4_init_39 0 rfl ?_
  refine V_aload_n dX4_init_40 1 rfl ?_
  refine V_putF dX4_init_41 rfl pX4_33 0 rfl rfl rfl rfl (ws' := [(b, .inr (4, [.ref (t), .int 0, .int 0, .int 0, .int 0, .int 0, .int 0, .int 0]))]) rfl ?_
  exact V_vret dX4_init_44 rfl (nb rfl) (nb rfl) ⟨rfl, rfl⟩

set_option maxRecDepth 100000 in
set_option maxHeartbeats 4000000 in
theorem c_Q_init {w : vWd} {b : Nat} : Ct w mX6_init 1 34 445 [.ref (b)] ([(b, .inr (6, [.null, .null, .null, .int 0, .int 0]))]) (fun r x => r = none ∧ ∃ a sr : Nat → Nat, a 0 = b ∧ x = cQ w a sr (0, 0, fun _ => 0, fun _ => 0, fun _ _ => 0)) := by
  refine Ct.of (L := [(0, .ref (b))]) (by decide) rfl rfl ?_
  refine V_aload_n dX6_init_0 0 rfl ?_
  refine V_oi dX6_init_1 oiX6 rfl ?_
  refine V_aload_n dX6_init_4 0 rfl ?_
  refine V_bipush 30 dX6_init_5 (by decide) ?_
  refine V_newI 30 dX6_init_7 (by decide) (by decide) rfl rfl (fun q7 => ?_)
  refine V_putF dX6_init_9 rfl pX6_9 0 rfl rfl rfl rfl (ws' := [(b, .inr (6, [.ref (q7), .null, .null, .int 0, .int 0])), (q7, .inl (vA w 0, 30, .inl (fun _ => 0)))]) rfl ?_
  refine V_aload_n dX6_init_12 0 rfl ?_
  refine V_bipush 31 dX6_init_13 (by decide) ?_
  refine V_bipush 12 dX6_init_15 (by decide) ?_
  refine V_mna 31 12 dX6_init_17 qX6_15 (by decide) (by decide) (by decide) (by decide) rfl rfl (fun q17 r17 => ?_)
  refine V_putF dX6_init_21 rfl pX6_17 0 rfl rfl rfl rfl (ws' := ([(b, .inr (6, [.ref (q7), .ref (q17), .null, .int 0, .int 0])), (q7, .inl (vA w 0, 30, .inl (fun _ => 0))), (q17, .inl (vA w 4, 31, .inr (.inr (.inr (.inr (fun i => some (r17 i)))))))] ++ (List.range 31).map (fun i => (r17 i, .inl (vA w 0, 12, .inl (fun _ => 0)))))) rfl ?_
  refine V_aload_n dX6_init_24 0 rfl ?_
  refine V_bipush 12 dX6_init_25 (by decide) ?_
  refine V_newI 12 dX6_init_27 (by decide) (by decide) rfl rfl (fun q27 => ?_)
  refine V.perm (ws' := ([(b, .inr (6, [.ref (q7), .ref (q17), .null, .int 0, .int 0])), (q7, .inl (vA w 0, 30, .inl (fun _ => 0))), (q17, .inl (vA w 4, 31, .inr (.inr (.inr (.inr (fun i => some (r17 i))))))), (q27, .inl (vA w 0, 12, .inl (fun _ => 0)))] ++ (List.range 31).map (fun i => (r17 i, .inl (vA w 0, 12, .inl (fun _ => 0)))))) (v_tuck _ _ _) ?_
  refine V_putF dX6_init_29 rfl pX6_20 0 rfl rfl rfl rfl (ws' := ([(b, .inr (6, [.ref (q7), .ref (q17), .ref (q27), .int 0, .int 0])), (q7, .inl (vA w 0, 30, .inl (fun _ => 0))), (q17, .inl (vA w 4, 31, .inr (.inr (.inr (.inr (fun i => some (r17 i))))))), (q27, .inl (vA w 0, 12, .inl (fun _ => 0)))] ++ (List.range 31).map (fun i => (r17 i, .inl (vA w 0, 12, .inl (fun _ => 0)))))) rfl ?_
  refine V_aload_n dX6_init_32 0 rfl ?_
  refine V_iconst 0 dX6_init_33 (by decide) ?_
  refine V_put dX6_init_34 pX6_23 0 rfl rfl rfl rfl (ws' := ([(b, .inr (6, [.ref (q7), .ref (q17), .ref (q27), .int 0, .int 0])), (q7, .inl (vA w 0, 30, .inl (fun _ => 0))), (q17, .inl (vA w 4, 31, .inr (.inr (.inr (.inr (fun i => some (r17 i))))))), (q27, .inl (vA w 0, 12, .inl (fun _ => 0)))] ++ (List.range 31).map (fun i => (r17 i, .inl (vA w 0, 12, .inl (fun _ => 0)))))) rfl ?_
  refine V_aload_n dX6_init_37 0 rfl ?_
  refine V_iconst 0 dX6_init_38 (by decide) ?_
  refine V_put dX6_init_39 pX6_27 0 rfl rfl rfl rfl (ws' := ([(b, .inr (6, [.ref (q7), .ref (q17), .ref (q27), .int 0, .int 0])), (q7, .inl (vA w 0, 30, .inl (fun _ => 0))), (q17, .inl (vA w 4, 31, .inr (.inr (.inr (.inr (fun i => some (r17 i))))))), (q27, .inl (vA w 0, 12, .inl (fun _ => 0)))] ++ (List.range 31).map (fun i => (r17 i, .inl (vA w 0, 12, .inl (fun _ => 0)))))) rfl ?_
  exact V_vret dX6_init_42 rfl (nb rfl) (nb rfl) ⟨rfl, fun i => [b, q7, q17, q27].getD i 0, r17, rfl, rfl⟩

set_option maxRecDepth 100000 in
set_option maxHeartbeats 4000000 in
theorem c_M_init {w : vWd} {b : Nat} : Ct w mX8_init 1 12 6694 [.ref (b)] ([(b, .inr (8, [.int 0, .null, .int 0, .int 0, .int 0, .int 0, .int 0, .int 0, .int 0, .int 0, .long (0), .null, .null, .null, .int 0, .int 0, .null, .null, .null, .int 0, .null, .null, .null, .null, .int 0, .null]))]) (fun r x => r = none ∧ ∃ a : Nat → Nat, a 0 = b ∧ x = cM w a 0 0 0 0 0 0 0 0 0 0 0 0 0 0 (fun _ _ => 0)) := by
  refine Ct.of (L := [(0, .ref (b))]) (by decide) rfl rfl ?_
  refine V_aload_n dX8_init_0 0 rfl ?_
  refine V_oi dX8_init_1 oiX8 rfl ?_
  refine V_aload_n dX8_init_4 0 rfl ?_
  refine V_sipush 640 dX8_init_5 (by decide) ?_
  refine V_newI 640 dX8_init_8 (by decide) (by decide) rfl rfl (fun q8 => ?_)
  refine V_putF dX8_init_10 rfl pX8_7 0 rfl rfl rfl rfl (ws' := [(b, .inr (8, [.int 0, .ref (q8), .int 0, .int 0, .int 0, .int 0, .int 0, .int 0, .int 0, .int 0, .long (0), .null, .null, .null, .int 0, .int 0, .null, .null, .null, .int 0, .null, .null, .null, .null, .int 0, .null])), (q8, .inl (vA w 0, 640, .inl (fun _ => 0)))]) rfl ?_
  refine V_aload_n dX8_init_13 0 rfl ?_
  refine V_sipush 500 dX8_init_14 (by decide) ?_
  refine V_newI 500 dX8_init_17 (by decide) (by decide) rfl rfl (fun q17 => ?_)
  refine V_putF dX8_init_19 rfl pX8_76 0 rfl rfl rfl rfl (ws' := [(b, .inr (8, [.int 0, .ref (q8), .int 0, .int 0, .int 0, .int 0, .int 0, .int 0, .int 0, .int 0, .long (0), .ref (q17), .null, .null, .int 0, .int 0, .null, .null, .null, .int 0, .null, .null, .null, .null, .int 0, .null])), (q8, .inl (vA w 0, 640, .inl (fun _ => 0))), (q17, .inl (vA w 0, 500, .inl (fun _ => 0)))]) rfl ?_
  refine V_aload_n dX8_init_22 0 rfl ?_
  refine V_sipush 500 dX8_init_23 (by decide) ?_
  refine V_newI 500 dX8_init_26 (by decide) (by decide) rfl rfl (fun q26 => ?_)
  refine V_putF dX8_init_28 rfl pX8_79 0 rfl rfl rfl rfl (ws' := [(b, .inr (8, [.int 0, .ref (q8), .int 0, .int 0, .int 0, .int 0, .int 0, .int 0, .int 0, .int 0, .long (0), .ref (q17), .ref (q26), .null, .int 0, .int 0, .null, .null, .null, .int 0, .null, .null, .null, .null, .int 0, .null])), (q8, .inl (vA w 0, 640, .inl (fun _ => 0))), (q17, .inl (vA w 0, 500, .inl (fun _ => 0))), (q26, .inl (vA w 0, 500, .inl (fun _ => 0)))]) rfl ?_
  refine V_aload_n dX8_init_31 0 rfl ?_
  refine V_sipush 5000 dX8_init_32 (by decide) ?_
  refine V_newI 5000 dX8_init_35 (by decide) (by decide) rfl rfl (fun q35 => ?_)
  refine V_putF dX8_init_37 rfl pX8_82 0 rfl rfl rfl rfl (ws' := [(b, .inr (8, [.int 0, .ref (q8), .int 0, .int 0, .int 0, .int 0, .int 0, .int 0, .int 0, .int 0, .long (0), .ref (q17), .ref (q26), .ref (q35), .int 0, .int 0, .null, .null, .null, .int 0, .null, .null, .null, .null, .int 0, .null])), (q8, .inl (vA w 0, 640, .inl (fun _ => 0))), (q17, .inl (vA w 0, 500, .inl (fun _ => 0))), (q26, .inl (vA w 0, 500, .inl (fun _ => 0))), (q35, .inl (vA w 0, 5000, .inl (fun _ => 0)))]) rfl ?_
  refine V_aload_n dX8_init_40 0 rfl ?_
  refine V_bipush 6 dX8_init_41 (by decide) ?_
  refine V_newI 6 dX8_init_43 (by decide) (by decide) rfl rfl (fun q43 => ?_)
  refine V_putF dX8_init_45 rfl pX8_85 0 rfl rfl rfl rfl (ws' := [(b, .inr (8, [.int 0, .ref (q8), .int 0, .int 0, .int 0, .int 0, .int 0, .int 0, .int 0, .int 0, .long (0), .ref (q17), .ref (q26), .ref (q35), .int 0, .int 0, .ref (q43), .null, .null, .int 0, .null, .null, .null, .null, .int 0, .null])), (q8, .inl (vA w 0, 640, .inl (fun _ => 0))), (q17, .inl (vA w 0, 500, .inl (fun _ => 0))), (q26, .inl (vA w 0, 500, .inl (fun _ => 0))), (q35, .inl (vA w 0, 5000, .inl (fun _ => 0))), (q43, .inl (vA w 0, 6, .inl (fun _ => 0)))]) rfl ?_
  refine V_aload_n dX8_init_48 0 rfl ?_
  refine V_bipush 6 dX8_init_49 (by decide) ?_
  refine V_newI 6 dX8_init_51 (by decide) (by decide) rfl rfl (fun q51 => ?_)
  refine V_putF dX8_init_53 rfl pX8_88 0 rfl rfl rfl rfl (ws' := [(b, .inr (8, [.int 0, .ref (q8), .int 0, .int 0, .int 0, .int 0, .int 0, .int 0, .int 0, .int 0, .long (0), .ref (q17), .ref (q26), .ref (q35), .int 0, .int 0, .ref (q43), .ref (q51), .null, .int 0, .null, .null, .null, .null, .int 0, .null])), (q8, .inl (vA w 0, 640, .inl (fun _ => 0))), (q17, .inl (vA w 0, 500, .inl (fun _ => 0))), (q26, .inl (vA w 0, 500, .inl (fun _ => 0))), (q35, .inl (vA w 0, 5000, .inl (fun _ => 0))), (q43, .inl (vA w 0, 6, .inl (fun _ => 0))), (q51, .inl (vA w 0, 6, .inl (fun _ => 0)))]) rfl ?_
  refine V_aload_n dX8_init_56 0 rfl ?_
  refine V_bipush 6 dX8_init_57 (by decide) ?_
  refine V_newI 6 dX8_init_59 (by decide) (by decide) rfl rfl (fun q59 => ?_)
  refine V_putF dX8_init_61 rfl pX8_91 0 rfl rfl rfl rfl (ws' := [(b, .inr (8, [.int 0, .ref (q8), .int 0, .int 0, .int 0, .int 0, .int 0, .int 0, .int 0, .int 0, .long (0), .ref (q17), .ref (q26), .ref (q35), .int 0, .int 0, .ref (q43), .ref (q51), .ref (q59), .int 0, .null, .null, .null, .null, .int 0, .null])), (q8, .inl (vA w 0, 640, .inl (fun _ => 0))), (q17, .inl (vA w 0, 500, .inl (fun _ => 0))), (q26, .inl (vA w 0, 500, .inl (fun _ => 0))), (q35, .inl (vA w 0, 5000, .inl (fun _ => 0))), (q43, .inl (vA w 0, 6, .inl (fun _ => 0))), (q51, .inl (vA w 0, 6, .inl (fun _ => 0))), (q59, .inl (vA w 0, 6, .inl (fun _ => 0)))]) rfl ?_
  refine V_aload_n dX8_init_64 0 rfl ?_
  refine V_bipush 6 dX8_init_65 (by decide) ?_
  refine V_newI 6 dX8_init_67 (by decide) (by decide) rfl rfl (fun q67 => ?_)
  refine V_putF dX8_init_69 rfl pX8_94 0 rfl rfl rfl rfl (ws' := [(b, .inr (8, [.int 0, .ref (q8), .int 0, .int 0, .int 0, .int 0, .int 0, .int 0, .int 0, .int 0, .long (0), .ref (q17), .ref (q26), .ref (q35), .int 0, .int 0, .ref (q43), .ref (q51), .ref (q59), .int 0, .ref (q67), .null, .null, .null, .int 0, .null])), (q8, .inl (vA w 0, 640, .inl (fun _ => 0))), (q17, .inl (vA w 0, 500, .inl (fun _ => 0))), (q26, .inl (vA w 0, 500, .inl (fun _ => 0))), (q35, .inl (vA w 0, 5000, .inl (fun _ => 0))), (q43, .inl (vA w 0, 6, .inl (fun _ => 0))), (q51, .inl (vA w 0, 6, .inl (fun _ => 0))), (q59, .inl (vA w 0, 6, .inl (fun _ => 0))), (q67, .inl (vA w 0, 6, .inl (fun _ => 0)))]) rfl ?_
  refine V_aload_n dX8_init_72 0 rfl ?_
  refine V_bipush 6 dX8_init_73 (by decide) ?_
  refine V_newI 6 dX8_init_75 (by decide) (by decide) rfl rfl (fun q75 => ?_)
  refine V_putF dX8_init_77 rfl pX8_97 0 rfl rfl rfl rfl (ws' := [(b, .inr (8, [.int 0, .ref (q8), .int 0, .int 0, .int 0, .int 0, .int 0, .int 0, .int 0, .int 0, .long (0), .ref (q17), .ref (q26), .ref (q35), .int 0, .int 0, .ref (q43), .ref (q51), .ref (q59), .int 0, .ref (q67), .ref (q75), .null, .null, .int 0, .null])), (q8, .inl (vA w 0, 640, .inl (fun _ => 0))), (q17, .inl (vA w 0, 500, .inl (fun _ => 0))), (q26, .inl (vA w 0, 500, .inl (fun _ => 0))), (q35, .inl (vA w 0, 5000, .inl (fun _ => 0))), (q43, .inl (vA w 0, 6, .inl (fun _ => 0))), (q51, .inl (vA w 0, 6, .inl (fun _ => 0))), (q59, .inl (vA w 0, 6, .inl (fun _ => 0))), (q67, .inl (vA w 0, 6, .inl (fun _ => 0))), (q75, .inl (vA w 0, 6, .inl (fun _ => 0)))]) rfl ?_
  refine V_aload_n dX8_init_80 0 rfl ?_
  refine V_bipush 6 dX8_init_81 (by decide) ?_
  refine V_newI 6 dX8_init_83 (by decide) (by decide) rfl rfl (fun q83 => ?_)
  refine V_putF dX8_init_85 rfl pX8_100 0 rfl rfl rfl rfl (ws' := [(b, .inr (8, [.int 0, .ref (q8), .int 0, .int 0, .int 0, .int 0, .int 0, .int 0, .int 0, .int 0, .long (0), .ref (q17), .ref (q26), .ref (q35), .int 0, .int 0, .ref (q43), .ref (q51), .ref (q59), .int 0, .ref (q67), .ref (q75), .ref (q83), .null, .int 0, .null])), (q8, .inl (vA w 0, 640, .inl (fun _ => 0))), (q17, .inl (vA w 0, 500, .inl (fun _ => 0))), (q26, .inl (vA w 0, 500, .inl (fun _ => 0))), (q35, .inl (vA w 0, 5000, .inl (fun _ => 0))), (q43, .inl (vA w 0, 6, .inl (fun _ => 0))), (q51, .inl (vA w 0, 6, .inl (fun _ => 0))), (q59, .inl (vA w 0, 6, .inl (fun _ => 0))), (q67, .inl (vA w 0, 6, .inl (fun _ => 0))), (q75, .inl (vA w 0, 6, .inl (fun _ => 0))), (q83, .inl (vA w 0, 6, .inl (fun _ => 0)))]) rfl ?_
  refine V_aload_n dX8_init_88 0 rfl ?_
  refine V_bipush 6 dX8_init_89 (by decide) ?_
  refine V_newI 6 dX8_init_91 (by decide) (by decide) rfl rfl (fun q91 => ?_)
  refine V_putF dX8_init_93 rfl pX8_103 0 rfl rfl rfl rfl (ws' := [(b, .inr (8, [.int 0, .ref (q8), .int 0, .int 0, .int 0, .int 0, .int 0, .int 0, .int 0, .int 0, .long (0), .ref (q17), .ref (q26), .ref (q35), .int 0, .int 0, .ref (q43), .ref (q51), .ref (q59), .int 0, .ref (q67), .ref (q75), .ref (q83), .ref (q91), .int 0, .null])), (q8, .inl (vA w 0, 640, .inl (fun _ => 0))), (q17, .inl (vA w 0, 500, .inl (fun _ => 0))), (q26, .inl (vA w 0, 500, .inl (fun _ => 0))), (q35, .inl (vA w 0, 5000, .inl (fun _ => 0))), (q43, .inl (vA w 0, 6, .inl (fun _ => 0))), (q51, .inl (vA w 0, 6, .inl (fun _ => 0))), (q59, .inl (vA w 0, 6, .inl (fun _ => 0))), (q67, .inl (vA w 0, 6, .inl (fun _ => 0))), (q75, .inl (vA w 0, 6, .inl (fun _ => 0))), (q83, .inl (vA w 0, 6, .inl (fun _ => 0))), (q91, .inl (vA w 0, 6, .inl (fun _ => 0)))]) rfl ?_
  refine V_aload_n dX8_init_96 0 rfl ?_
  refine V_bipush 12 dX8_init_97 (by decide) ?_
  refine V_newI 12 dX8_init_99 (by decide) (by decide) rfl rfl (fun q99 => ?_)
  refine V_putF dX8_init_101 rfl pX8_106 0 rfl rfl rfl rfl (ws' := [(b, .inr (8, [.int 0, .ref (q8), .int 0, .int 0, .int 0, .int 0, .int 0, .int 0, .int 0, .int 0, .long (0), .ref (q17), .ref (q26), .ref (q35), .int 0, .int 0, .ref (q43), .ref (q51), .ref (q59), .int 0, .ref (q67), .ref (q75), .ref (q83), .ref (q91), .int 0, .ref (q99)])), (q8, .inl (vA w 0, 640, .inl (fun _ => 0))), (q17, .inl (vA w 0, 500, .inl (fun _ => 0))), (q26, .inl (vA w 0, 500, .inl (fun _ => 0))), (q35, .inl (vA w 0, 5000, .inl (fun _ => 0))), (q43, .inl (vA w 0, 6, .inl (fun _ => 0))), (q51, .inl (vA w 0, 6, .inl (fun _ => 0))), (q59, .inl (vA w 0, 6, .inl (fun _ => 0))), (q67, .inl (vA w 0, 6, .inl (fun _ => 0))), (q75, .inl (vA w 0, 6, .inl (fun _ => 0))), (q83, .inl (vA w 0, 6, .inl (fun _ => 0))), (q91, .inl (vA w 0, 6, .inl (fun _ => 0))), (q99, .inl (vA w 0, 12, .inl (fun _ => 0)))]) rfl ?_
  exact V_vret dX8_init_104 rfl (nb rfl) (nb rfl) ⟨rfl, fun i => [b, q8, 0, 0, 0, 0, 0, 0, 0, 0, 0, q17, q26, q35, 0, 0, q43, q51, q59, 0, q67, q75, q83, q91, 0, q99].getD i 0, rfl, rfl⟩

