/-! 10: CashDeriver$Tape, CashDeriver$Acts -/
abbrev TP : Type := Nat × (Nat → Int32)
def cT (w : vWd) (a : Nat → Nat) (T : TP) : va_W := [(a 0, .inr (5, [.ref (a 1), .int (nI T.1)])), (a 1, .inl (vA w 1, 640, .inl T.2))]
/-- the byte that a number's shift by sh gives, as it lies in a row of bytes -/
def tB (x sh : Int32) : Int32 := vp_nar .byte (x >>> (sh &&& 31)).toInt8.toInt32
def tApp (T : TP) (x : Int32) : TP := (T.1 + 1 + 1 + 1 + 1, upd (upd (upd (upd T.2 T.1 (tB x 24)) (T.1 + 1) (tB x 16)) (T.1 + 1 + 1) (tB x 8)) (T.1 + 1 + 1 + 1) (tB x 0))
def tIn (T : TP) (x : Int32) : Bool := !decide (x < 0) && decide (x ≤ nI T.1)
theorem tIn_true {T : TP} {x : Int32} (hn : T.1 ≤ 640) (h : tIn T x = true) : ∃ j : Nat, x = nI j ∧ j ≤ T.1 := by
  simp only [tIn, Bool.and_eq_true, Bool.not_eq_true', decide_eq_true_eq, decide_eq_false_iff_not] at h
  obtain ⟨j, hj, rfl⟩ := nI_of h.1
  exact ⟨j, rfl, (nI_leI hj (by omega)).mp h.2⟩
def tSign (T : TP) (x : Int32) : Int32 := if !decide (x < 0) && decide (x < nI T.1) then T.2 x.toNatClampNeg else 0
theorem tSign_n {T : TP} (hn : T.1 ≤ 640) {p : Nat} (hp : p < 2147483648) : tSign T (nI p) = if p < T.1 then T.2 p else 0 := by
  have h1 : ¬ nI p < 0 := nI_pos hp
  have h2 : (nI p < nI T.1) = (p < T.1) := propext (nI_ltI hp (by omega))
  simp only [tSign, h1, h2, nI_clamp hp]
  simp

set_option maxRecDepth 100000 in
set_option maxHeartbeats 4000000 in
theorem c_T_size (w : vWd) (a : Nat → Nat) (T : TP) : Ct w mX5_size 0 0 0 [.ref (a 0)] (cT w a T) (qE (some (.int (nI T.1))) (cT w a T)) := by
  refine Ct.of (L := [(0, .ref (a 0))]) (by decide) rfl rfl ?_
  refine V_aload_n dX5_size_0 0 rfl ?_
  refine V_get dX5_size_1 fX5_13 0 rfl rfl ?_
  exact V_iret dX5_size_4 rfl (nb rfl) (nb rfl) ⟨rfl, rfl⟩

set_option maxRecDepth 100000 in
set_option maxHeartbeats 4000000 in
theorem c_T_room (w : vWd) (a : Nat → Nat) (T : TP) (hT : T.1 ≤ 640) : Ct w mX5_room 0 0 0 [.ref (a 0)] (cT w a T) (qE (some (.int (nI (640 - T.1)))) (cT w a T)) := by
  refine Ct.of (L := [(0, .ref (a 0))]) (by decide) rfl rfl ?_
  refine V_sipush 640 dX5_room_0 (by decide) ?_
  refine V_aload_n dX5_room_3 0 rfl ?_
  refine V_get dX5_room_4 fX5_13 0 rfl rfl ?_
  refine V_isub dX5_room_7 ?_
  refine V_casti (y := nI (640 - T.1)) (pk_sub hT) ?_
  exact V_iret dX5_room_8 rfl (nb rfl) (nb rfl) ⟨rfl, rfl⟩

set_option maxRecDepth 100000 in
set_option maxHeartbeats 4000000 in
theorem c_T_signAt (w : vWd) (a : Nat → Nat) (T : TP) (x : Int32) (hT : T.1 ≤ 640) : Ct w mX5_signAt 0 0 0 [.ref (a 0), .int x] (cT w a T) (qE (some (.int (tSign T x))) (cT w a T)) := by
  refine Ct.of (L := [(0, .ref (a 0)), (1, .int x)]) (by decide) rfl rfl ?_
  refine V_iload_n dX5_signAt_0 1 rfl ?_
  refine V_if_lt 21 dX5_signAt_1 (by decide) (fun zc1 => ?_) (fun zc1 => ?_)
  · refine V_iconst 0 dX5_signAt_21 (by decide) ?_
    exact V_iret dX5_signAt_22 rfl (nb rfl) (nb rfl) ⟨by rw [tSign, if_neg (by grind)], rfl⟩
  · refine V_iload_n dX5_signAt_4 1 rfl ?_
    refine V_aload_n dX5_signAt_5 0 rfl ?_
    refine V_get dX5_signAt_6 fX5_13 0 rfl rfl ?_
    refine V_icmp_ge 21 dX5_signAt_9 (by decide) (fun zc2 => ?_) (fun zc2 => ?_)
    · refine V_iconst 0 dX5_signAt_21 (by decide) ?_
      exact V_iret dX5_signAt_22 rfl (nb rfl) (nb rfl) ⟨by rw [tSign, if_neg (by grind)], rfl⟩
    · obtain ⟨j, hj0, hxj⟩ := nI_of zc1
      have hjn : j < T.1 := Nat.lt_of_not_le fun z => zc2 (by rw [hxj]; exact nI_le z (by omega))
      refine V_aload_n dX5_signAt_12 0 rfl ?_
      refine V_get dX5_signAt_13 fX5_9 0 rfl rfl ?_
      refine V_iload_n dX5_signAt_16 1 rfl ?_
      refine V_bald dX5_signAt_17 1 rfl rfl j hxj (by omega) ?_
      refine V_goto 22 dX5_signAt_18 (by decide) ?_
      exact V_iret dX5_signAt_22 rfl (nb rfl) (nb rfl) ⟨by rw [tSign, if_pos (by grind), hxj, nI_clamp (by omega)], rfl⟩

set_option maxRecDepth 100000 in
set_option maxHeartbeats 4000000 in
theorem c_T_cut (w : vWd) (a : Nat → Nat) (T : TP) (x : Int32) (hT : T.1 ≤ 640) : Ct w mX5_cut 0 0 0 [.ref (a 0), .int x] (cT w a T) (qE (some (.int (bi (tIn T x)))) (cT w a (if tIn T x then (x.toNatClampNeg, T.2) else T))) := by
  refine Ct.of (L := [(0, .ref (a 0)), (1, .int x)]) (by decide) rfl rfl ?_
  refine V_iload_n dX5_cut_0 1 rfl ?_
  refine V_if_lt 12 dX5_cut_1 (by decide) (fun zc1 => ?_) (fun zc1 => ?_)
  · refine V_iconst 0 dX5_cut_12 (by decide) ?_
    exact V_zret dX5_cut_13 rfl rfl (nb rfl) (nb rfl) ⟨by grind [tIn, bi], by rw [if_neg (by grind [tIn])]⟩
  · refine V_iload_n dX5_cut_4 1 rfl ?_
    refine V_aload_n dX5_cut_5 0 rfl ?_
    refine V_get dX5_cut_6 fX5_13 0 rfl rfl ?_
    refine V_icmp_le 14 dX5_cut_9 (by decide) (fun zc2 => ?_) (fun zc2 => ?_)
    · refine V_aload_n dX5_cut_14 0 rfl ?_
      refine V_iload_n dX5_cut_15 1 rfl ?_
      have ht : tIn T x = true := by grind [tIn]
      obtain ⟨j, hxj, hjn⟩ := tIn_true hT ht
      refine V_casti hxj ?_
      refine V_put dX5_cut_16 pX5_13 0 rfl rfl rfl rfl (ws' := cT w a (j, T.2)) rfl ?_
      refine V_iconst 1 dX5_cut_19 (by decide) ?_
      exact V_zret dX5_cut_20 rfl rfl (nb rfl) (nb rfl) ⟨by rw [ht]; rfl, by rw [ht, if_pos rfl, hxj, nI_clamp (by omega)]⟩
    · refine V_iconst 0 dX5_cut_12 (by decide) ?_
      exact V_zret dX5_cut_13 rfl rfl (nb rfl) (nb rfl) ⟨by grind [tIn, bi], by rw [if_neg (by grind [tIn])]⟩

set_option maxRecDepth 100000 in
set_option maxHeartbeats 4000000 in
theorem c_T_append (w : vWd) (a : Nat → Nat) (T : TP) (x : Int32) (hT : T.1 + 4 ≤ 640) : Ct w mX5_append 0 0 0 [.ref (a 0), .int x] (cT w a T) (qE none (cT w a (tApp T x))) := by
  refine Ct.of (L := [(0, .ref (a 0)), (1, .int x)]) (by decide) rfl rfl ?_
  refine V_bipush 24 dX5_append_0 (by decide) ?_
  refine V_istore_n dX5_append_2 rfl (L' := [(0, .ref (a 0)), (1, .int x), (2, .int 24)]) rfl ?_
  refine V_iload_n dX5_append_3 2 rfl ?_
  refine V_if_lt_f 46 dX5_append_4 (by decide) (by decide) ?_
  refine V_aload_n dX5_append_7 0 rfl ?_
  refine V_get dX5_append_8 fX5_13 0 rfl rfl ?_
  refine V_sipush 640 dX5_append_11 (by decide) ?_
  refine V_icmp_ge_f 46 dX5_append_14 (by decide) (by rw [show (640 : Int32) = nI 640 from rfl]; exact nI_ge (by omega) (by omega)) ?_
  refine V_aload_n dX5_append_17 0 rfl ?_
  refine V_get dX5_append_18 fX5_9 0 rfl rfl ?_
  refine V_aload_n dX5_append_21 0 rfl ?_
  refine V_get dX5_append_22 fX5_13 0 rfl rfl ?_
  refine V_iload_n dX5_append_25 1 rfl ?_
  refine V_iload_n dX5_append_26 2 rfl ?_
  refine V_ishr dX5_append_27 ?_
  refine V_i2b dX5_append_28 ?_
  refine V_bast dX5_append_29 1 rfl rfl T.1 rfl (by omega) (ws' := cT w a (T.1, upd T.2 T.1 (vp_nar .byte ((x >>> (24 &&& 31)).toInt8.toInt32)))) rfl ?_
  refine V_aload_n dX5_append_30 0 rfl ?_
  refine V_dup dX5_append_31 rfl ?_
  refine V_get dX5_append_32 fX5_13 0 rfl rfl ?_
  refine V_iconst 1 dX5_append_35 (by decide) ?_
  refine V_iadd dX5_append_36 ?_
  refine V_casti (y := nI (T.1 + 1)) (nI_add T.1 1) ?_
  refine V_put dX5_append_37 pX5_13 0 rfl rfl rfl rfl (ws' := cT w a (T.1 + 1, upd T.2 T.1 (vp_nar .byte ((x >>> (24 &&& 31)).toInt8.toInt32)))) rfl ?_
  refine V_iinc 16 dX5_append_40 2 rfl (by decide) rfl (L' := [(0, .ref (a 0)), (1, .int x), (2, .int 16)]) rfl ?_
  refine V_goto 3 dX5_append_43 (by decide) ?_
  refine V_iload_n dX5_append_3 2 rfl ?_
  refine V_if_lt_f 46 dX5_append_4 (by decide) (by decide) ?_
  refine V_aload_n dX5_append_7 0 rfl ?_
  refine V_get dX5_append_8 fX5_13 0 rfl rfl ?_
  refine V_sipush 640 dX5_append_11 (by decide) ?_
  refine V_icmp_ge_f 46 dX5_append_14 (by decide) (by rw [show (640 : Int32) = nI 640 from rfl]; exact nI_ge (by omega) (by omega)) ?_
  refine V_aload_n dX5_append_17 0 rfl ?_
  refine V_get dX5_append_18 fX5_9 0 rfl rfl ?_
  refine V_aload_n dX5_append_21 0 rfl ?_
  refine V_get dX5_append_22 fX5_13 0 rfl rfl ?_
  refine V_iload_n dX5_append_25 1 rfl ?_
  refine V_iload_n dX5_append_26 2 rfl ?_
  refine V_ishr dX5_append_27 ?_
  refine V_i2b dX5_append_28 ?_
  refine V_bast dX5_append_29 1 rfl rfl (T.1 + 1) rfl (by omega) (ws' := cT w a (T.1 + 1, upd (upd T.2 T.1 (vp_nar .byte ((x >>> (24 &&& 31)).toInt8.toInt32))) (T.1 + 1) (vp_nar .byte ((x >>> (16 &&& 31)).toInt8.toInt32)))) rfl ?_
  refine V_aload_n dX5_append_30 0 rfl ?_
  refine V_dup dX5_append_31 rfl ?_
  refine V_get dX5_append_32 fX5_13 0 rfl rfl ?_
  refine V_iconst 1 dX5_append_35 (by decide) ?_
  refine V_iadd dX5_append_36 ?_
  refine V_casti (y := nI (T.1 + 1 + 1)) (nI_add (T.1 + 1) 1) ?_
  refine V_put dX5_append_37 pX5_13 0 rfl rfl rfl rfl (ws' := cT w a (T.1 + 1 + 1, upd (upd T.2 T.1 (vp_nar .byte ((x >>> (24 &&& 31)).toInt8.toInt32))) (T.1 + 1) (vp_nar .byte ((x >>> (16 &&& 31)).toInt8.toInt32)))) rfl ?_
  refine V_iinc 8 dX5_append_40 2 rfl (by decide) rfl (L' := [(0, .ref (a 0)), (1, .int x), (2, .int 8)]) rfl ?_
  refine V_goto 3 dX5_append_43 (by decide) ?_
  refine V_iload_n dX5_append_3 2 rfl ?_
  refine V_if_lt_f 46 dX5_append_4 (by decide) (by decide) ?_
  refine V_aload_n dX5_append_7 0 rfl ?_
  refine V_get dX5_append_8 fX5_13 0 rfl rfl ?_
  refine V_sipush 640 dX5_append_11 (by decide) ?_
  refine V_icmp_ge_f 46 dX5_append_14 (by decide) (by rw [show (640 : Int32) = nI 640 from rfl]; exact nI_ge (by omega) (by omega)) ?_
  refine V_aload_n dX5_append_17 0 rfl ?_
  refine V_get dX5_append_18 fX5_9 0 rfl rfl ?_
  refine V_aload_n dX5_append_21 0 rfl ?_
  refine V_get dX5_append_22 fX5_13 0 rfl rfl ?_
  refine V_iload_n dX5_append_25 1 rfl ?_
  refine V_iload_n dX5_append_26 2 rfl ?_
  refine V_ishr dX5_append_27 ?_
  refine V_i2b dX5_append_28 ?_
  refine V_bast dX5_append_29 1 rfl rfl (T.1 + 1 + 1) rfl (by omega) (ws' := cT w a (T.1 + 1 + 1, upd (upd (upd T.2 T.1 (vp_nar .byte ((x >>> (24 &&& 31)).toInt8.toInt32))) (T.1 + 1) (vp_nar .byte ((x >>> (16 &&& 31)).toInt8.toInt32))) (T.1 + 1 + 1) (vp_nar .byte ((x >>> (8 &&& 31)).toInt8.toInt32)))) rfl ?_
  refine V_aload_n dX5_append_30 0 rfl ?_
  refine V_dup dX5_append_31 rfl ?_
  refine V_get dX5_append_32 fX5_13 0 rfl rfl ?_
  refine V_iconst 1 dX5_append_35 (by decide) ?_
  refine V_iadd dX5_append_36 ?_
  refine V_casti (y := nI (T.1 + 1 + 1 + 1)) (nI_add (T.1 + 1 + 1) 1) ?_
  refine V_put dX5_append_37 pX5_13 0 rfl rfl rfl rfl (ws' := cT w a (T.1 + 1 + 1 + 1, upd (upd (upd T.2 T.1 (vp_nar .byte ((x >>> (24 &&& 31)).toInt8.toInt32))) (T.1 + 1) (vp_nar .byte ((x >>> (16 &&& 31)).toInt8.toInt32))) (T.1 + 1 + 1) (vp_nar .byte ((x >>> (8 &&& 31)).toInt8.toInt32)))) rfl ?_
  refine V_iinc 0 dX5_append_40 2 rfl (by decide) rfl (L' := [(0, .ref (a 0)), (1, .int x), (2, .int 0)]) rfl ?_
  refine V_goto 3 dX5_append_43 (by decide) ?_
  refine V_iload_n dX5_append_3 2 rfl ?_
  refine V_if_lt_f 46 dX5_append_4 (by decide) (by decide) ?_
  refine V_aload_n dX5_append_7 0 rfl ?_
  refine V_get dX5_append_8 fX5_13 0 rfl rfl ?_
  refine V_sipush 640 dX5_append_11 (by decide) ?_
  refine V_icmp_ge_f 46 dX5_append_14 (by decide) (by rw [show (640 : Int32) = nI 640 from rfl]; exact nI_ge (by omega) (by omega)) ?_
  refine V_aload_n dX5_append_17 0 rfl ?_
  refine V_get dX5_append_18 fX5_9 0 rfl rfl ?_
  refine V_aload_n dX5_append_21 0 rfl ?_
  refine V_get dX5_append_22 fX5_13 0 rfl rfl ?_
  refine V_iload_n dX5_append_25 1 rfl ?_
  refine V_iload_n dX5_append_26 2 rfl ?_
  refine V_ishr dX5_append_27 ?_
  refine V_i2b dX5_append_28 ?_
  refine V_bast dX5_append_29 1 rfl rfl (T.1 + 1 + 1 + 1) rfl (by omega) (ws' := cT w a (T.1 + 1 + 1 + 1, upd (upd (upd (upd T.2 T.1 (vp_nar .byte ((x >>> (24 &&& 31)).toInt8.toInt32))) (T.1 + 1) (vp_nar .byte ((x >>> (16 &&& 31)).toInt8.toInt32))) (T.1 + 1 + 1) (vp_nar .byte ((x >>> (8 &&& 31)).toInt8.toInt32))) (T.1 + 1 + 1 + 1) (vp_nar .byte ((x >>> (0 &&& 31)).toInt8.toInt32)))) rfl ?_
  refine V_aload_n dX5_append_30 0 rfl ?_
  refine V_dup dX5_append_31 rfl ?_
  refine V_get dX5_append_32 fX5_13 0 rfl rfl ?_
  refine V_iconst 1 dX5_append_35 (by decide) ?_
  refine V_iadd dX5_append_36 ?_
  refine V_casti (y := nI (T.1 + 1 + 1 + 1 + 1)) (nI_add (T.1 + 1 + 1 + 1) 1) ?_
  refine V_put dX5_append_37 pX5_13 0 rfl rfl rfl rfl (ws' := cT w a (T.1 + 1 + 1 + 1 + 1, upd (upd (upd (upd T.2 T.1 (vp_nar .byte ((x >>> (24 &&& 31)).toInt8.toInt32))) (T.1 + 1) (vp_nar .byte ((x >>> (16 &&& 31)).toInt8.toInt32))) (T.1 + 1 + 1) (vp_nar .byte ((x >>> (8 &&& 31)).toInt8.toInt32))) (T.1 + 1 + 1 + 1) (vp_nar .byte ((x >>> (0 &&& 31)).toInt8.toInt32)))) rfl ?_
  refine V_iinc (-8) dX5_append_40 2 rfl (by decide) rfl (L' := [(0, .ref (a 0)), (1, .int x), (2, .int (-8))]) rfl ?_
  refine V_goto 3 dX5_append_43 (by decide) ?_
  refine V_iload_n dX5_append_3 2 rfl ?_
  refine V_if_lt_t 46 dX5_append_4 (by decide) (by decide) ?_
  exact V_vret dX5_append_46 rfl (nb rfl) (nb rfl) ⟨rfl, rfl⟩

abbrev AP : Type := Nat × (Nat → Nat → Int32)
def cA (w : vWd) (a : Nat → Nat) (A : AP) : va_W := [(a 0, .inr (0, [.ref (a 1), .ref (a 2), .ref (a 3), .int (nI A.1)])), (a 1, .inl (vA w 0, 10, .inl (A.2 0))), (a 2, .inl (vA w 0, 10, .inl (A.2 1))), (a 3, .inl (vA w 0, 10, .inl (A.2 2)))]
/-- one place nearer for those behind the first q -/
def shf (f : Nat → Int32) (q : Nat) : Nat → Int32 := fun j => if j < q then f (j + 1) else f j
theorem shf_0 (f : Nat → Int32) : shf f 0 = f := funext fun j => by simp [shf]
theorem shf_s (f : Nat → Int32) (q : Nat) : upd (shf f q) q (shf f q (q + 1)) = shf f (q + 1) := by
  funext j
  by_cases h : j = q
  · subst h; simp [upd, shf]; intro h; omega
  · by_cases h2 : j < q
    · simp [upd, shf, h, h2, Nat.lt_succ_of_lt h2]
    · simp [upd, shf, h, h2, show ¬ j < q + 1 by omega]
def aOld (A : AP) : AP := (9, uX (uX (uX A.2 0 (shf (A.2 0) 9)) 1 (shf (A.2 1) 9)) 2 (shf (A.2 2) 9))
def aPush (A : AP) (x y z : Int32) : AP := (A.1 + 1, uX (uX (uX A.2 0 (upd (A.2 0) A.1 x)) 1 (upd (A.2 1) A.1 y)) 2 (upd (A.2 2) A.1 z))
def aKeep (A : AP) (x y z : Int32) : AP := if A.1 < 10 then aPush A x y z else aPush (aOld A) x y z

set_option maxRecDepth 100000 in
set_option maxHeartbeats 4000000 in
theorem c_A_size (w : vWd) (a : Nat → Nat) (A : AP) : Ct w mX0_size 0 0 0 [.ref (a 0)] (cA w a A) (qE (some (.int (nI A.1))) (cA w a A)) := by
  refine Ct.of (L := [(0, .ref (a 0))]) (by decide) rfl rfl ?_
  refine V_aload_n dX0_size_0 0 rfl ?_
  refine V_get dX0_size_1 fX0_21 0 rfl rfl ?_
  exact V_iret dX0_size_4 rfl (nb rfl) (nb rfl) ⟨rfl, rfl⟩

set_option maxRecDepth 100000 in
set_option maxHeartbeats 4000000 in
theorem c_A_clear (w : vWd) (a : Nat → Nat) (A : AP) : Ct w mX0_clear 0 0 0 [.ref (a 0)] (cA w a A) (qE none (cA w a (0, A.2))) := by
  refine Ct.of (L := [(0, .ref (a 0))]) (by decide) rfl rfl ?_
  refine V_aload_n dX0_clear_0 0 rfl ?_
  refine V_iconst 0 dX0_clear_1 (by decide) ?_
  refine V_put dX0_clear_2 pX0_21 0 rfl rfl rfl rfl (ws' := cA w a (0, A.2)) rfl ?_
  exact V_vret dX0_clear_5 rfl (nb rfl) (nb rfl) ⟨rfl, rfl⟩

set_option maxRecDepth 100000 in
set_option maxHeartbeats 4000000 in
theorem c_A_latestSort (w : vWd) (a : Nat → Nat) (A : AP) (hA : A.1 ≤ 10) : Ct w mX0_latestSort 0 0 0 [.ref (a 0)] (cA w a A) (qE (some (.int (if 0 < A.1 then A.2 0 (A.1 - 1) else -1))) (cA w a A)) := by
  refine Ct.of (L := [(0, .ref (a 0))]) (by decide) rfl rfl ?_
  refine V_aload_n dX0_latestSort_0 0 rfl ?_
  refine V_get dX0_latestSort_1 fX0_21 0 rfl rfl ?_
  refine V_if_le_n A.1 21 dX0_latestSort_4 (by decide) (by omega) (fun zc1 => ?_) (fun zc1 => ?_)
  · refine V_iconst (-1) dX0_latestSort_21 (by decide) ?_
    exact V_iret dX0_latestSort_22 rfl (nb rfl) (nb rfl) ⟨by rw [if_neg (by omega)], rfl⟩
  · refine V_aload_n dX0_latestSort_7 0 rfl ?_
    refine V_get dX0_latestSort_8 fX0_11 0 rfl rfl ?_
    refine V_aload_n dX0_latestSort_11 0 rfl ?_
    refine V_get dX0_latestSort_12 fX0_21 0 rfl rfl ?_
    refine V_iconst 1 dX0_latestSort_15 (by decide) ?_
    refine V_isub dX0_latestSort_16 ?_
    refine V_casti (y := nI (A.1 - 1)) (pk_sub (a := A.1) (b := 1) (by omega)) ?_
    refine V_iald dX0_latestSort_17 1 rfl rfl (A.1 - 1) rfl (by omega) ?_
    refine V_goto 22 dX0_latestSort_18 (by decide) ?_
    exact V_iret dX0_latestSort_22 rfl (nb rfl) (nb rfl) ⟨by rw [if_pos zc1], rfl⟩

set_option maxRecDepth 100000 in
set_option maxHeartbeats 4000000 in
theorem c_A_latestTarget (w : vWd) (a : Nat → Nat) (A : AP) (hA : A.1 ≤ 10) : Ct w mX0_latestTarget 0 0 0 [.ref (a 0)] (cA w a A) (qE (some (.int (if 0 < A.1 then A.2 1 (A.1 - 1) else -1))) (cA w a A)) := by
  refine Ct.of (L := [(0, .ref (a 0))]) (by decide) rfl rfl ?_
  refine V_aload_n dX0_latestTarget_0 0 rfl ?_
  refine V_get dX0_latestTarget_1 fX0_21 0 rfl rfl ?_
  refine V_if_le_n A.1 21 dX0_latestTarget_4 (by decide) (by omega) (fun zc1 => ?_) (fun zc1 => ?_)
  · refine V_iconst (-1) dX0_latestTarget_21 (by decide) ?_
    exact V_iret dX0_latestTarget_22 rfl (nb rfl) (nb rfl) ⟨by rw [if_neg (by omega)], rfl⟩
  · refine V_aload_n dX0_latestTarget_7 0 rfl ?_
    refine V_get dX0_latestTarget_8 fX0_15 0 rfl rfl ?_
    refine V_aload_n dX0_latestTarget_11 0 rfl ?_
    refine V_get dX0_latestTarget_12 fX0_21 0 rfl rfl ?_
    refine V_iconst 1 dX0_latestTarget_15 (by decide) ?_
    refine V_isub dX0_latestTarget_16 ?_
    refine V_casti (y := nI (A.1 - 1)) (pk_sub (a := A.1) (b := 1) (by omega)) ?_
    refine V_iald dX0_latestTarget_17 2 rfl rfl (A.1 - 1) rfl (by omega) ?_
    refine V_goto 22 dX0_latestTarget_18 (by decide) ?_
    exact V_iret dX0_latestTarget_22 rfl (nb rfl) (nb rfl) ⟨by rw [if_pos zc1], rfl⟩

set_option maxRecDepth 100000 in
set_option maxHeartbeats 4000000 in
theorem c_A_latestBefore (w : vWd) (a : Nat → Nat) (A : AP) (hA : A.1 ≤ 10) : Ct w mX0_latestBefore 0 0 0 [.ref (a 0)] (cA w a A) (qE (some (.int (if 0 < A.1 then A.2 2 (A.1 - 1) else -1))) (cA w a A)) := by
  refine Ct.of (L := [(0, .ref (a 0))]) (by decide) rfl rfl ?_
  refine V_aload_n dX0_latestBefore_0 0 rfl ?_
  refine V_get dX0_latestBefore_1 fX0_21 0 rfl rfl ?_
  refine V_if_le_n A.1 21 dX0_latestBefore_4 (by decide) (by omega) (fun zc1 => ?_) (fun zc1 => ?_)
  · refine V_iconst (-1) dX0_latestBefore_21 (by decide) ?_
    exact V_iret dX0_latestBefore_22 rfl (nb rfl) (nb rfl) ⟨by rw [if_neg (by omega)], rfl⟩
  · refine V_aload_n dX0_latestBefore_7 0 rfl ?_
    refine V_get dX0_latestBefore_8 fX0_18 0 rfl rfl ?_
    refine V_aload_n dX0_latestBefore_11 0 rfl ?_
    refine V_get dX0_latestBefore_12 fX0_21 0 rfl rfl ?_
    refine V_iconst 1 dX0_latestBefore_15 (by decide) ?_
    refine V_isub dX0_latestBefore_16 ?_
    refine V_casti (y := nI (A.1 - 1)) (pk_sub (a := A.1) (b := 1) (by omega)) ?_
    refine V_iald dX0_latestBefore_17 3 rfl rfl (A.1 - 1) rfl (by omega) ?_
    refine V_goto 22 dX0_latestBefore_18 (by decide) ?_
    exact V_iret dX0_latestBefore_22 rfl (nb rfl) (nb rfl) ⟨by rw [if_pos zc1], rfl⟩

theorem imax_dec : ∀ n : Nat, n ≤ 30 → imax (nI n - 1) 0 = nI (n - 1) := by decide +kernel
set_option maxRecDepth 100000 in
set_option maxHeartbeats 4000000 in
theorem c_A_dropLatest (w : vWd) (a : Nat → Nat) (A : AP) (hA : A.1 ≤ 10) : Ct w mX0_dropLatest 1 0 0 [.ref (a 0)] (cA w a A) (qE none (cA w a (A.1 - 1, A.2))) := by
  refine Ct.of (L := [(0, .ref (a 0))]) (by decide) rfl rfl ?_
  refine V_aload_n dX0_dropLatest_0 0 rfl ?_
  refine V_aload_n dX0_dropLatest_1 0 rfl ?_
  refine V_get dX0_dropLatest_2 fX0_21 0 rfl rfl ?_
  refine V_iconst 1 dX0_dropLatest_5 (by decide) ?_
  refine V_isub dX0_dropLatest_6 ?_
  refine V_iconst 0 dX0_dropLatest_7 (by decide) ?_
  refine V_mmax dX0_dropLatest_8 lX0_28 rfl ?_
  refine V_casti (y := nI (A.1 - 1)) (imax_dec _ (by omega)) ?_
  refine V_put dX0_dropLatest_11 pX0_21 0 rfl rfl rfl rfl (ws' := cA w a (A.1 - 1, A.2)) rfl ?_
  exact V_vret dX0_dropLatest_14 rfl (nb rfl) (nb rfl) ⟨rfl, rfl⟩

set_option maxRecDepth 100000 in
set_option maxHeartbeats 4000000 in
theorem lp_A_dropOldest (w : vWd) (a : Nat → Nat) (A : AP) : ∀ (m : Nat) (q : Nat), (10 ≤ q + m) → (q ≤ 9) → V w mX0_dropOldest (vc w 0 0 0 (qE none (cA w a (aOld A)))) 0 0 2 [(0, .ref (a 0)), (1, .int (nI (q + 1)))] [] (cA w a (A.1, uX (uX (uX (A.2) 0 (shf (A.2 0) q)) 1 (shf (A.2 1) q)) 2 (shf (A.2 2) q))) := by
  intro m
  induction m with
  | zero =>
    intro q h1 h2
    exact absurd h1 (by omega)
  | succ m ih =>
    intro q h1 h2
    refine V_iload_n dX0_dropOldest_2 1 rfl ?_
    refine V_bipush 10 dX0_dropOldest_3 (by decide) ?_
    refine V_icmp_ge_n (q + 1) 10 56 dX0_dropOldest_5 (by decide) (by omega) (by omega) (fun zc1 => ?_) (fun zc1 => ?_)
    · refine V_aload_n dX0_dropOldest_56 0 rfl ?_
      refine V_bipush 9 dX0_dropOldest_57 (by decide) ?_
      refine V_put dX0_dropOldest_59 pX0_21 0 rfl rfl rfl rfl (ws' := cA w a (9, uX (uX (uX (A.2) 0 (shf (A.2 0) q)) 1 (shf (A.2 1) q)) 2 (shf (A.2 2) q))) rfl ?_
      exact V_vret dX0_dropOldest_62 rfl (nb rfl) (nb rfl) ⟨rfl, by rw [show q = 9 by omega]; rfl⟩
    · refine V_aload_n dX0_dropOldest_8 0 rfl ?_
      refine V_get dX0_dropOldest_9 fX0_11 0 rfl rfl ?_
      refine V_iload_n dX0_dropOldest_12 1 rfl ?_
      refine V_iconst 1 dX0_dropOldest_13 (by decide) ?_
      refine V_isub dX0_dropOldest_14 ?_
      refine V_casti (y := nI q) (nI_pred q) ?_
      refine V_aload_n dX0_dropOldest_15 0 rfl ?_
      refine V_get dX0_dropOldest_16 fX0_11 0 rfl rfl ?_
      refine V_iload_n dX0_dropOldest_19 1 rfl ?_
      refine V_iald dX0_dropOldest_20 1 rfl rfl (q + 1) rfl (by omega) ?_
      refine V_iast dX0_dropOldest_21 1 rfl rfl q rfl (by omega) (ws' := cA w a (A.1, uX (uX (uX (A.2) 0 (upd (shf (A.2 0) q) q ((shf (A.2 0) q) (q + 1)))) 1 (shf (A.2 1) q)) 2 (shf (A.2 2) q))) rfl ?_
      refine V_aload_n dX0_dropOldest_22 0 rfl ?_
      refine V_get dX0_dropOldest_23 fX0_15 0 rfl rfl ?_
      refine V_iload_n dX0_dropOldest_26 1 rfl ?_
      refine V_iconst 1 dX0_dropOldest_27 (by decide) ?_
      refine V_isub dX0_dropOldest_28 ?_
      refine V_casti (y := nI q) (nI_pred q) ?_
      refine V_aload_n dX0_dropOldest_29 0 rfl ?_
      refine V_get dX0_dropOldest_30 fX0_15 0 rfl rfl ?_
      refine V_iload_n dX0_dropOldest_33 1 rfl ?_
      refine V_iald dX0_dropOldest_34 2 rfl rfl (q + 1) rfl (by omega) ?_
      refine V_iast dX0_dropOldest_35 2 rfl rfl q rfl (by omega) (ws' := cA w a (A.1, uX (uX (uX (A.2) 0 (upd (shf (A.2 0) q) q ((shf (A.2 0) q) (q + 1)))) 1 (upd (shf (A.2 1) q) q ((shf (A.2 1) q) (q + 1)))) 2 (shf (A.2 2) q))) rfl ?_
      refine V_aload_n dX0_dropOldest_36 0 rfl ?_
      refine V_get dX0_dropOldest_37 fX0_18 0 rfl rfl ?_
      refine V_iload_n dX0_dropOldest_40 1 rfl ?_
      refine V_iconst 1 dX0_dropOldest_41 (by decide) ?_
      refine V_isub dX0_dropOldest_42 ?_
      refine V_casti (y := nI q) (nI_pred q) ?_
      refine V_aload_n dX0_dropOldest_43 0 rfl ?_
      refine V_get dX0_dropOldest_44 fX0_18 0 rfl rfl ?_
      refine V_iload_n dX0_dropOldest_47 1 rfl ?_
      refine V_iald dX0_dropOldest_48 3 rfl rfl (q + 1) rfl (by omega) ?_
      refine V_iast dX0_dropOldest_49 3 rfl rfl q rfl (by omega) (ws' := cA w a (A.1, uX (uX (uX (A.2) 0 (upd (shf (A.2 0) q) q ((shf (A.2 0) q) (q + 1)))) 1 (upd (shf (A.2 1) q) q ((shf (A.2 1) q) (q + 1)))) 2 (upd (shf (A.2 2) q) q ((shf (A.2 2) q) (q + 1))))) rfl ?_
      refine V_iinc (nI (q + 1 + 1)) dX0_dropOldest_50 1 rfl (nI_i1 (q + 1)) rfl (L' := [(0, .ref (a 0)), (1, .int (nI (q + 1 + 1)))]) rfl ?_
      refine V_goto 2 dX0_dropOldest_53 (by decide) ?_
      rw [shf_s, shf_s, shf_s]
      exact ih (q + 1) (by omega) (by omega)

set_option maxRecDepth 100000 in
set_option maxHeartbeats 4000000 in
theorem c_A_dropOldest (w : vWd) (a : Nat → Nat) (A : AP) : Ct w mX0_dropOldest 0 0 0 [.ref (a 0)] (cA w a A) (qE none (cA w a (aOld A))) := by
  refine Ct.of (L := [(0, .ref (a 0))]) (by decide) rfl rfl ?_
  refine V_iconst 1 dX0_dropOldest_0 (by decide) ?_
  refine V_istore_n dX0_dropOldest_1 rfl (L' := [(0, .ref (a 0)), (1, .int 1)]) rfl ?_
  have h := lp_A_dropOldest w a A 10 0 (by omega) (by omega)
  rw [shf_0, shf_0, shf_0] at h
  exact V_ws rfl h

set_option maxRecDepth 100000 in
set_option maxHeartbeats 4000000 in
theorem c_A_keep (w : vWd) (a : Nat → Nat) (A : AP) (x y z : Int32) (hA : A.1 ≤ 10) : Ct w mX0_keep 1 0 0 [.ref (a 0), .int x, .int y, .int z] (cA w a A) (qE none (cA w a (aKeep A x y z))) := by
  refine Ct.of (L := [(0, .ref (a 0)), (1, .int x), (2, .int y), (3, .int z)]) (by decide) rfl rfl ?_
  refine V_aload_n dX0_keep_0 0 rfl ?_
  refine V_get dX0_keep_1 fX0_21 0 rfl rfl ?_
  refine V_bipush 10 dX0_keep_4 (by decide) ?_
  refine V_icmp_lt_n A.1 10 13 dX0_keep_6 (by decide) (by first | omega | (show 9 < _; omega)) (by first | omega | (show 9 < _; omega)) (fun zc1 => ?_) (fun zc1 => ?_)
  · refine V_aload_n dX0_keep_13 0 rfl ?_
    refine V_get dX0_keep_14 fX0_11 0 rfl rfl ?_
    refine V_aload_n dX0_keep_17 0 rfl ?_
    refine V_get dX0_keep_18 fX0_21 0 rfl rfl ?_
    refine V_iload_n dX0_keep_21 1 rfl ?_
    refine V_iast dX0_keep_22 1 rfl rfl A.1 rfl (by first | omega | (show 9 < _; omega)) (ws' := cA w a (A.1, uX (A.2) 0 (upd (A.2 0) A.1 x))) rfl ?_
    refine V_aload_n dX0_keep_23 0 rfl ?_
    refine V_get dX0_keep_24 fX0_15 0 rfl rfl ?_
    refine V_aload_n dX0_keep_27 0 rfl ?_
    refine V_get dX0_keep_28 fX0_21 0 rfl rfl ?_
    refine V_iload_n dX0_keep_31 2 rfl ?_
    refine V_iast dX0_keep_32 2 rfl rfl A.1 rfl (by first | omega | (show 9 < _; omega)) (ws' := cA w a (A.1, uX (uX (A.2) 0 (upd (A.2 0) A.1 x)) 1 (upd (A.2 1) A.1 y))) rfl ?_
    refine V_aload_n dX0_keep_33 0 rfl ?_
    refine V_get dX0_keep_34 fX0_18 0 rfl rfl ?_
    refine V_aload_n dX0_keep_37 0 rfl ?_
    refine V_get dX0_keep_38 fX0_21 0 rfl rfl ?_
    refine V_iload_n dX0_keep_41 3 rfl ?_
    refine V_iast dX0_keep_42 3 rfl rfl A.1 rfl (by first | omega | (show 9 < _; omega)) (ws' := cA w a (A.1, uX (uX (uX (A.2) 0 (upd (A.2 0) A.1 x)) 1 (upd (A.2 1) A.1 y)) 2 (upd (A.2 2) A.1 z))) rfl ?_
    refine V_aload_n dX0_keep_43 0 rfl ?_
    refine V_dup dX0_keep_44 rfl ?_
    refine V_get dX0_keep_45 fX0_21 0 rfl rfl ?_
    refine V_iconst 1 dX0_keep_48 (by decide) ?_
    refine V_iadd dX0_keep_49 ?_
    refine V_casti (y := nI (A.1 + 1)) (nI_add A.1 1) ?_
    refine V_put dX0_keep_50 pX0_21 0 rfl rfl rfl rfl (ws' := cA w a (A.1 + 1, uX (uX (uX (A.2) 0 (upd (A.2 0) A.1 x)) 1 (upd (A.2 1) A.1 y)) 2 (upd (A.2 2) A.1 z))) rfl ?_
    exact V_vret dX0_keep_53 rfl (nb rfl) (nb rfl) ⟨rfl, by rw [aKeep, if_pos zc1]; rfl⟩
  · refine V_aload_n dX0_keep_9 0 rfl ?_
    refine V_selfE (ws' := cA w a (aOld A)) dX0_keep_10 lX0_25 (c_A_dropOldest w a A) rfl rfl 0 rfl rfl rfl rfl ?_
    refine V_aload_n dX0_keep_13 0 rfl ?_
    refine V_get dX0_keep_14 fX0_11 0 rfl rfl ?_
    refine V_aload_n dX0_keep_17 0 rfl ?_
    refine V_get dX0_keep_18 fX0_21 0 rfl rfl ?_
    refine V_iload_n dX0_keep_21 1 rfl ?_
    refine V_iast dX0_keep_22 1 rfl rfl ((aOld A).1) rfl (by first | omega | (show 9 < _; omega)) (ws' := cA w a ((aOld A).1, uX ((aOld A).2) 0 (upd ((aOld A).2 0) ((aOld A).1) x))) rfl ?_
    refine V_aload_n dX0_keep_23 0 rfl ?_
    refine V_get dX0_keep_24 fX0_15 0 rfl rfl ?_
    refine V_aload_n dX0_keep_27 0 rfl ?_
    refine V_get dX0_keep_28 fX0_21 0 rfl rfl ?_
    refine V_iload_n dX0_keep_31 2 rfl ?_
    refine V_iast dX0_keep_32 2 rfl rfl ((aOld A).1) rfl (by first | omega | (show 9 < _; omega)) (ws' := cA w a ((aOld A).1, uX (uX ((aOld A).2) 0 (upd ((aOld A).2 0) ((aOld A).1) x)) 1 (upd ((aOld A).2 1) ((aOld A).1) y))) rfl ?_
    refine V_aload_n dX0_keep_33 0 rfl ?_
    refine V_get dX0_keep_34 fX0_18 0 rfl rfl ?_
    refine V_aload_n dX0_keep_37 0 rfl ?_
    refine V_get dX0_keep_38 fX0_21 0 rfl rfl ?_
    refine V_iload_n dX0_keep_41 3 rfl ?_
    refine V_iast dX0_keep_42 3 rfl rfl ((aOld A).1) rfl (by first | omega | (show 9 < _; omega)) (ws' := cA w a ((aOld A).1, uX (uX (uX ((aOld A).2) 0 (upd ((aOld A).2 0) ((aOld A).1) x)) 1 (upd ((aOld A).2 1) ((aOld A).1) y)) 2 (upd ((aOld A).2 2) ((aOld A).1) z))) rfl ?_
    refine V_aload_n dX0_keep_43 0 rfl ?_
    refine V_dup dX0_keep_44 rfl ?_
    refine V_get dX0_keep_45 fX0_21 0 rfl rfl ?_
    refine V_iconst 1 dX0_keep_48 (by decide) ?_
    refine V_iadd dX0_keep_49 ?_
    refine V_casti (y := nI (((aOld A).1) + 1)) (nI_add ((aOld A).1) 1) ?_
    refine V_put dX0_keep_50 pX0_21 0 rfl rfl rfl rfl (ws' := cA w a (((aOld A).1) + 1, uX (uX (uX ((aOld A).2) 0 (upd ((aOld A).2 0) ((aOld A).1) x)) 1 (upd ((aOld A).2 1) ((aOld A).1) y)) 2 (upd ((aOld A).2 2) ((aOld A).1) z))) rfl ?_
    exact V_vret dX0_keep_53 rfl (nb rfl) (nb rfl) ⟨rfl, by rw [aKeep, if_neg (by omega)]; rfl⟩
