/-! 13: the reference: its tape and its tokens -/
def cM (w : vWd) (a : Nat → Nat) (th : Int32) (tp sz q fr so : Nat) (nu : Int32) (fa pl : Nat) (wd : Int64) (sn : Nat) (gt : Int32) (gs ps : Nat) (X : Nat → Nat → Int32) : va_W :=
  [(a 0, .inr (8, [.int th, .ref (a 1), .int (nI tp), .int (nI sz), .int (nI q), .int (nI fr), .int (nI so), .int nu, .int (nI fa), .int (nI pl), .long wd, .ref (a 11), .ref (a 12), .ref (a 13), .int (nI sn), .int gt, .ref (a 16), .ref (a 17), .ref (a 18), .int (nI gs), .ref (a 20), .ref (a 21), .ref (a 22), .ref (a 23), .int (nI ps), .ref (a 25)])), (a 1, .inl (vA w 0, 640, .inl (X 1))), (a 11, .inl (vA w 0, 500, .inl (X 11))), (a 12, .inl (vA w 0, 500, .inl (X 12))), (a 13, .inl (vA w 0, 5000, .inl (X 13))), (a 16, .inl (vA w 0, 6, .inl (X 16))), (a 17, .inl (vA w 0, 6, .inl (X 17))), (a 18, .inl (vA w 0, 6, .inl (X 18))), (a 20, .inl (vA w 0, 6, .inl (X 20))), (a 21, .inl (vA w 0, 6, .inl (X 21))), (a 22, .inl (vA w 0, 6, .inl (X 22))), (a 23, .inl (vA w 0, 6, .inl (X 23))), (a 25, .inl (vA w 0, 12, .inl (X 25)))]

def isInB (v a b : Int32) : Bool := decide (a ≤ v) && decide (v ≤ b)
abbrev isD (c : Int32) : Bool := isInB c 48 57
abbrev isL (c : Int32) : Bool := isInB c 97 122
def mB (x sh : Int32) : Int32 := (x.toUInt32 >>> (sh.toUInt32 &&& Int32.toUInt32 31)).toInt32 &&& 255
def mLay (t : Nat → Int32) (n : Nat) (x : Int32) : Nat → Int32 := upd (upd (upd (upd t n (mB x 24)) (n + 1) (mB x 16)) (n + 1 + 1) (mB x 8)) (n + 1 + 1 + 1) (mB x 0)
def two (a b : Int32) : Int64 := 27 * (a.toInt64 - 96) + b.toInt64 - 96
def four (a b c d : Int32) : Int64 := 729 * two a b + two c d
def seven (a b c d e f g : Int32) : Int64 := 19683 * four a b c d + 27 * two e f + g.toInt64 - 96
def tA (t : Nat → Int32) (n p : Nat) : Int32 := if p < n then t p else 0

set_option maxRecDepth 100000 in
set_option maxHeartbeats 4000000 in
theorem c_M_isIn (w : vWd) (x y z : Int32) : Ct w mX8_isIn 0 0 0 [.int x, .int y, .int z] ([]) (qE (some (.int (bi (isInB x y z)))) []) := by
  refine Ct.of (L := [(0, .int x), (1, .int y), (2, .int z)]) (by decide) rfl rfl ?_
  refine V_iload_n dX8_isIn_0 0 rfl ?_
  refine V_iload_n dX8_isIn_1 1 rfl ?_
  refine V_icmp_lt 14 dX8_isIn_2 (by decide) (fun zc1 => ?_) (fun zc1 => ?_)
  · refine V_iconst 0 dX8_isIn_14 (by decide) ?_
    exact V_zret dX8_isIn_15 rfl rfl (nb rfl) (nb rfl) ⟨by grind [isInB, bi], rfl⟩
  · refine V_iload_n dX8_isIn_5 0 rfl ?_
    refine V_iload_n dX8_isIn_6 2 rfl ?_
    refine V_icmp_gt 14 dX8_isIn_7 (by decide) (fun zc2 => ?_) (fun zc2 => ?_)
    · refine V_iconst 0 dX8_isIn_14 (by decide) ?_
      exact V_zret dX8_isIn_15 rfl rfl (nb rfl) (nb rfl) ⟨by grind [isInB, bi], rfl⟩
    · refine V_iconst 1 dX8_isIn_10 (by decide) ?_
      refine V_goto 15 dX8_isIn_11 (by decide) ?_
      exact V_zret dX8_isIn_15 rfl rfl (nb rfl) (nb rfl) ⟨by grind [isInB, bi], rfl⟩

set_option maxRecDepth 100000 in
set_option maxHeartbeats 4000000 in
theorem c_M_isDigit (w : vWd) (x : Int32) : Ct w mX8_isDigit 0 0 0 [.int x] ([]) (qE (some (.int (bi (isD x)))) []) := by
  refine Ct.of (L := [(0, .int x)]) (by decide) rfl rfl ?_
  refine V_iload_n dX8_isDigit_0 0 rfl ?_
  refine V_bipush 48 dX8_isDigit_1 (by decide) ?_
  refine V_icmp_lt 16 dX8_isDigit_3 (by decide) (fun zc1 => ?_) (fun zc1 => ?_)
  · refine V_iconst 0 dX8_isDigit_16 (by decide) ?_
    exact V_zret dX8_isDigit_17 rfl rfl (nb rfl) (nb rfl) ⟨by grind [isInB, bi], rfl⟩
  · refine V_iload_n dX8_isDigit_6 0 rfl ?_
    refine V_bipush 57 dX8_isDigit_7 (by decide) ?_
    refine V_icmp_gt 16 dX8_isDigit_9 (by decide) (fun zc2 => ?_) (fun zc2 => ?_)
    · refine V_iconst 0 dX8_isDigit_16 (by decide) ?_
      exact V_zret dX8_isDigit_17 rfl rfl (nb rfl) (nb rfl) ⟨by grind [isInB, bi], rfl⟩
    · refine V_iconst 1 dX8_isDigit_12 (by decide) ?_
      refine V_goto 17 dX8_isDigit_13 (by decide) ?_
      exact V_zret dX8_isDigit_17 rfl rfl (nb rfl) (nb rfl) ⟨by grind [isInB, bi], rfl⟩

set_option maxRecDepth 100000 in
set_option maxHeartbeats 4000000 in
theorem c_M_isLetter (w : vWd) (x : Int32) : Ct w mX8_isLetter 0 0 0 [.int x] ([]) (qE (some (.int (bi (isL x)))) []) := by
  refine Ct.of (L := [(0, .int x)]) (by decide) rfl rfl ?_
  refine V_iload_n dX8_isLetter_0 0 rfl ?_
  refine V_bipush 97 dX8_isLetter_1 (by decide) ?_
  refine V_icmp_lt 16 dX8_isLetter_3 (by decide) (fun zc1 => ?_) (fun zc1 => ?_)
  · refine V_iconst 0 dX8_isLetter_16 (by decide) ?_
    exact V_zret dX8_isLetter_17 rfl rfl (nb rfl) (nb rfl) ⟨by grind [isInB, bi], rfl⟩
  · refine V_iload_n dX8_isLetter_6 0 rfl ?_
    refine V_bipush 122 dX8_isLetter_7 (by decide) ?_
    refine V_icmp_gt 16 dX8_isLetter_9 (by decide) (fun zc2 => ?_) (fun zc2 => ?_)
    · refine V_iconst 0 dX8_isLetter_16 (by decide) ?_
      exact V_zret dX8_isLetter_17 rfl rfl (nb rfl) (nb rfl) ⟨by grind [isInB, bi], rfl⟩
    · refine V_iconst 1 dX8_isLetter_12 (by decide) ?_
      refine V_goto 17 dX8_isLetter_13 (by decide) ?_
      exact V_zret dX8_isLetter_17 rfl rfl (nb rfl) (nb rfl) ⟨by grind [isInB, bi], rfl⟩

set_option maxRecDepth 100000 in
set_option maxHeartbeats 4000000 in
theorem c_M_two (w : vWd) (x y : Int32) : Ct w mX8_two 0 0 0 [.int x, .int y] ([]) (qE (some (.long (two x y))) []) := by
  refine Ct.of (L := [(0, .int x), (1, .int y)]) (by decide) rfl rfl ?_
  refine V_ldc2 dX8_two_0 kX8_48 ?_
  refine V_iload_n dX8_two_3 0 rfl ?_
  refine V_i2l dX8_two_4 ?_
  refine V_ldc2 dX8_two_5 kX8_50 ?_
  refine V_lsub dX8_two_8 ?_
  refine V_lmul dX8_two_9 ?_
  refine V_iload_n dX8_two_10 1 rfl ?_
  refine V_i2l dX8_two_11 ?_
  refine V_ladd dX8_two_12 ?_
  refine V_ldc2 dX8_two_13 kX8_50 ?_
  refine V_lsub dX8_two_16 ?_
  exact V_lret dX8_two_17 rfl (nb rfl) (nb rfl) ⟨rfl, rfl⟩

set_option maxRecDepth 100000 in
set_option maxHeartbeats 4000000 in
theorem c_M_four (w : vWd) (x y z u : Int32) : Ct w mX8_four 1 0 0 [.int x, .int y, .int z, .int u] ([]) (qE (some (.long (four x y z u))) []) := by
  refine Ct.of (L := [(0, .int x), (1, .int y), (2, .int z), (3, .int u)]) (by decide) rfl rfl ?_
  refine V_ldc2 dX8_four_0 kX8_52 ?_
  refine V_iload_n dX8_four_3 0 rfl ?_
  refine V_iload_n dX8_four_4 1 rfl ?_
  refine V_purS dX8_four_5 lX8_54 (c_M_two w x y) rfl rfl rfl ?_
  refine V_lmul dX8_four_8 ?_
  refine V_iload_n dX8_four_9 2 rfl ?_
  refine V_iload_n dX8_four_10 3 rfl ?_
  refine V_purS dX8_four_11 lX8_54 (c_M_two w z u) rfl rfl rfl ?_
  refine V_ladd dX8_four_14 ?_
  exact V_lret dX8_four_15 rfl (nb rfl) (nb rfl) ⟨rfl, rfl⟩

set_option maxRecDepth 100000 in
set_option maxHeartbeats 4000000 in
theorem c_M_seven (w : vWd) (x y z u v p r : Int32) : Ct w mX8_seven 2 0 0 [.int x, .int y, .int z, .int u, .int v, .int p, .int r] ([]) (qE (some (.long (seven x y z u v p r))) []) := by
  refine Ct.of (L := [(0, .int x), (1, .int y), (2, .int z), (3, .int u), (4, .int v), (5, .int p), (6, .int r)]) (by decide) rfl rfl ?_
  refine V_ldc2 dX8_seven_0 kX8_58 ?_
  refine V_iload_n dX8_seven_3 0 rfl ?_
  refine V_iload_n dX8_seven_4 1 rfl ?_
  refine V_iload_n dX8_seven_5 2 rfl ?_
  refine V_iload_n dX8_seven_6 3 rfl ?_
  refine V_purS dX8_seven_7 lX8_60 (c_M_four w x y z u) rfl rfl rfl ?_
  refine V_lmul dX8_seven_10 ?_
  refine V_ldc2 dX8_seven_11 kX8_48 ?_
  refine V_iload dX8_seven_14 4 rfl ?_
  refine V_iload dX8_seven_16 5 rfl ?_
  refine V_purS dX8_seven_18 lX8_54 (c_M_two w v p) rfl rfl rfl ?_
  refine V_lmul dX8_seven_21 ?_
  refine V_ladd dX8_seven_22 ?_
  refine V_iload dX8_seven_23 6 rfl ?_
  refine V_i2l dX8_seven_25 ?_
  refine V_ladd dX8_seven_26 ?_
  refine V_ldc2 dX8_seven_27 kX8_50 ?_
  refine V_lsub dX8_seven_30 ?_
  exact V_lret dX8_seven_31 rfl (nb rfl) (nb rfl) ⟨rfl, rfl⟩

set_option maxRecDepth 100000 in
set_option maxHeartbeats 4000000 in
theorem c_M_thrown (w : vWd) (a : Nat → Nat) (th : Int32) (tp sz q fr so : Nat) (nu : Int32) (fa pl : Nat) (wd : Int64) (sn : Nat) (gt : Int32) (gs ps : Nat) (X : Nat → Nat → Int32)  : Ct w mX8_thrown 0 0 0 [.ref (a 0)] (cM w a th tp sz q fr so nu fa pl wd sn gt gs ps X) (qE (some (.int th)) (cM w a th tp sz q fr so nu fa pl wd sn gt gs ps X)) := by
  refine Ct.of (L := [(0, .ref (a 0))]) (by decide) rfl rfl ?_
  refine V_aload_n dX8_thrown_0 0 rfl ?_
  refine V_get dX8_thrown_1 fX8_1 0 rfl rfl ?_
  exact V_iret dX8_thrown_4 rfl (nb rfl) (nb rfl) ⟨rfl, rfl⟩

set_option maxRecDepth 100000 in
set_option maxHeartbeats 4000000 in
theorem c_M_refuse (w : vWd) (a : Nat → Nat) (th : Int32) (tp sz q fr so : Nat) (nu : Int32) (fa pl : Nat) (wd : Int64) (sn : Nat) (gt : Int32) (gs ps : Nat) (X : Nat → Nat → Int32)  : Ct w mX8_refuse 0 0 0 [.ref (a 0)] (cM w a th tp sz q fr so nu fa pl wd sn gt gs ps X) (qE (some (.int 0)) (cM w a 1 tp sz q fr so nu fa pl wd sn gt gs ps X)) := by
  refine Ct.of (L := [(0, .ref (a 0))]) (by decide) rfl rfl ?_
  refine V_aload_n dX8_refuse_0 0 rfl ?_
  refine V_iconst 1 dX8_refuse_1 (by decide) ?_
  refine V_put dX8_refuse_2 pX8_1 0 rfl rfl rfl rfl (ws' := cM w a 1 tp sz q fr so nu fa pl wd sn gt gs ps X) rfl ?_
  refine V_iconst 0 dX8_refuse_5 (by decide) ?_
  exact V_iret dX8_refuse_6 rfl (nb rfl) (nb rfl) ⟨rfl, rfl⟩

set_option maxRecDepth 100000 in
set_option maxHeartbeats 4000000 in
theorem c_M_lays (w : vWd) (a : Nat → Nat) (th : Int32) (tp sz q fr so : Nat) (nu : Int32) (fa pl : Nat) (wd : Int64) (sn : Nat) (gt : Int32) (gs ps : Nat) (X : Nat → Nat → Int32) (x : Int32) (hT : tp + 4 ≤ 640) : Ct w mX8_lays 0 0 0 [.ref (a 0), .int x] (cM w a th tp sz q fr so nu fa pl wd sn gt gs ps X) (qE none (cM w a th (tp + 1 + 1 + 1 + 1) sz q fr so nu fa pl wd sn gt gs ps (uX X 1 (mLay (X 1) tp x)))) := by
  refine Ct.of (L := [(0, .ref (a 0)), (1, .int x)]) (by decide) rfl rfl ?_
  refine V_bipush 24 dX8_lays_0 (by decide) ?_
  refine V_istore_n dX8_lays_2 rfl (L' := [(0, .ref (a 0)), (1, .int x), (2, .int 24)]) rfl ?_
  refine V_iload_n dX8_lays_3 2 rfl ?_
  refine V_if_lt_f 39 dX8_lays_4 (by decide) (by decide) ?_
  refine V_aload_n dX8_lays_7 0 rfl ?_
  refine V_get dX8_lays_8 fX8_7 0 rfl rfl ?_
  refine V_aload_n dX8_lays_11 0 rfl ?_
  refine V_get dX8_lays_12 fX8_11 0 rfl rfl ?_
  refine V_iload_n dX8_lays_15 1 rfl ?_
  refine V_iload_n dX8_lays_16 2 rfl ?_
  refine V_iushr (v := (x.toUInt32 >>> ((24 : Int32).toUInt32 &&& Int32.toUInt32 31)).toInt32) dX8_lays_17 rfl ?_
  refine V_sipush 255 dX8_lays_18 (by decide) ?_
  refine V_iand dX8_lays_21 ?_
  refine V_casti (y := mB x 24) rfl ?_
  refine V_iast dX8_lays_22 1 rfl rfl tp rfl (by omega) (ws' := cM w a th tp sz q fr so nu fa pl wd sn gt gs ps (uX X 1 (upd (X 1) tp (mB x 24)))) rfl ?_
  refine V_aload_n dX8_lays_23 0 rfl ?_
  refine V_dup dX8_lays_24 rfl ?_
  refine V_get dX8_lays_25 fX8_11 0 rfl rfl ?_
  refine V_iconst 1 dX8_lays_28 (by decide) ?_
  refine V_iadd dX8_lays_29 ?_
  refine V_casti (y := nI (tp + 1)) (nI_add tp 1) ?_
  refine V_put dX8_lays_30 pX8_11 0 rfl rfl rfl rfl (ws' := cM w a th (tp + 1) sz q fr so nu fa pl wd sn gt gs ps (uX X 1 (upd (X 1) tp (mB x 24)))) rfl ?_
  refine V_iinc 16 dX8_lays_33 2 rfl (by decide) rfl (L' := [(0, .ref (a 0)), (1, .int x), (2, .int 16)]) rfl ?_
  refine V_goto 3 dX8_lays_36 (by decide) ?_
  refine V_iload_n dX8_lays_3 2 rfl ?_
  refine V_if_lt_f 39 dX8_lays_4 (by decide) (by decide) ?_
  refine V_aload_n dX8_lays_7 0 rfl ?_
  refine V_get dX8_lays_8 fX8_7 0 rfl rfl ?_
  refine V_aload_n dX8_lays_11 0 rfl ?_
  refine V_get dX8_lays_12 fX8_11 0 rfl rfl ?_
  refine V_iload_n dX8_lays_15 1 rfl ?_
  refine V_iload_n dX8_lays_16 2 rfl ?_
  refine V_iushr (v := (x.toUInt32 >>> ((16 : Int32).toUInt32 &&& Int32.toUInt32 31)).toInt32) dX8_lays_17 rfl ?_
  refine V_sipush 255 dX8_lays_18 (by decide) ?_
  refine V_iand dX8_lays_21 ?_
  refine V_casti (y := mB x 16) rfl ?_
  refine V_iast dX8_lays_22 1 rfl rfl (tp + 1) rfl (by omega) (ws' := cM w a th (tp + 1) sz q fr so nu fa pl wd sn gt gs ps (uX X 1 (upd (upd (X 1) tp (mB x 24)) (tp + 1) (mB x 16)))) rfl ?_
  refine V_aload_n dX8_lays_23 0 rfl ?_
  refine V_dup dX8_lays_24 rfl ?_
  refine V_get dX8_lays_25 fX8_11 0 rfl rfl ?_
  refine V_iconst 1 dX8_lays_28 (by decide) ?_
  refine V_iadd dX8_lays_29 ?_
  refine V_casti (y := nI (tp + 1 + 1)) (nI_add (tp + 1) 1) ?_
  refine V_put dX8_lays_30 pX8_11 0 rfl rfl rfl rfl (ws' := cM w a th (tp + 1 + 1) sz q fr so nu fa pl wd sn gt gs ps (uX X 1 (upd (upd (X 1) tp (mB x 24)) (tp + 1) (mB x 16)))) rfl ?_
  refine V_iinc 8 dX8_lays_33 2 rfl (by decide) rfl (L' := [(0, .ref (a 0)), (1, .int x), (2, .int 8)]) rfl ?_
  refine V_goto 3 dX8_lays_36 (by decide) ?_
  refine V_iload_n dX8_lays_3 2 rfl ?_
  refine V_if_lt_f 39 dX8_lays_4 (by decide) (by decide) ?_
  refine V_aload_n dX8_lays_7 0 rfl ?_
  refine V_get dX8_lays_8 fX8_7 0 rfl rfl ?_
  refine V_aload_n dX8_lays_11 0 rfl ?_
  refine V_get dX8_lays_12 fX8_11 0 rfl rfl ?_
  refine V_iload_n dX8_lays_15 1 rfl ?_
  refine V_iload_n dX8_lays_16 2 rfl ?_
  refine V_iushr (v := (x.toUInt32 >>> ((8 : Int32).toUInt32 &&& Int32.toUInt32 31)).toInt32) dX8_lays_17 rfl ?_
  refine V_sipush 255 dX8_lays_18 (by decide) ?_
  refine V_iand dX8_lays_21 ?_
  refine V_casti (y := mB x 8) rfl ?_
  refine V_iast dX8_lays_22 1 rfl rfl (tp + 1 + 1) rfl (by omega) (ws' := cM w a th (tp + 1 + 1) sz q fr so nu fa pl wd sn gt gs ps (uX X 1 (upd (upd (upd (X 1) tp (mB x 24)) (tp + 1) (mB x 16)) (tp + 1 + 1) (mB x 8)))) rfl ?_
  refine V_aload_n dX8_lays_23 0 rfl ?_
  refine V_dup dX8_lays_24 rfl ?_
  refine V_get dX8_lays_25 fX8_11 0 rfl rfl ?_
  refine V_iconst 1 dX8_lays_28 (by decide) ?_
  refine V_iadd dX8_lays_29 ?_
  refine V_casti (y := nI (tp + 1 + 1 + 1)) (nI_add (tp + 1 + 1) 1) ?_
  refine V_put dX8_lays_30 pX8_11 0 rfl rfl rfl rfl (ws' := cM w a th (tp + 1 + 1 + 1) sz q fr so nu fa pl wd sn gt gs ps (uX X 1 (upd (upd (upd (X 1) tp (mB x 24)) (tp + 1) (mB x 16)) (tp + 1 + 1) (mB x 8)))) rfl ?_
  refine V_iinc 0 dX8_lays_33 2 rfl (by decide) rfl (L' := [(0, .ref (a 0)), (1, .int x), (2, .int 0)]) rfl ?_
  refine V_goto 3 dX8_lays_36 (by decide) ?_
  refine V_iload_n dX8_lays_3 2 rfl ?_
  refine V_if_lt_f 39 dX8_lays_4 (by decide) (by decide) ?_
  refine V_aload_n dX8_lays_7 0 rfl ?_
  refine V_get dX8_lays_8 fX8_7 0 rfl rfl ?_
  refine V_aload_n dX8_lays_11 0 rfl ?_
  refine V_get dX8_lays_12 fX8_11 0 rfl rfl ?_
  refine V_iload_n dX8_lays_15 1 rfl ?_
  refine V_iload_n dX8_lays_16 2 rfl ?_
  refine V_iushr (v := (x.toUInt32 >>> ((0 : Int32).toUInt32 &&& Int32.toUInt32 31)).toInt32) dX8_lays_17 rfl ?_
  refine V_sipush 255 dX8_lays_18 (by decide) ?_
  refine V_iand dX8_lays_21 ?_
  refine V_casti (y := mB x 0) rfl ?_
  refine V_iast dX8_lays_22 1 rfl rfl (tp + 1 + 1 + 1) rfl (by omega) (ws' := cM w a th (tp + 1 + 1 + 1) sz q fr so nu fa pl wd sn gt gs ps (uX X 1 (upd (upd (upd (upd (X 1) tp (mB x 24)) (tp + 1) (mB x 16)) (tp + 1 + 1) (mB x 8)) (tp + 1 + 1 + 1) (mB x 0)))) rfl ?_
  refine V_aload_n dX8_lays_23 0 rfl ?_
  refine V_dup dX8_lays_24 rfl ?_
  refine V_get dX8_lays_25 fX8_11 0 rfl rfl ?_
  refine V_iconst 1 dX8_lays_28 (by decide) ?_
  refine V_iadd dX8_lays_29 ?_
  refine V_casti (y := nI (tp + 1 + 1 + 1 + 1)) (nI_add (tp + 1 + 1 + 1) 1) ?_
  refine V_put dX8_lays_30 pX8_11 0 rfl rfl rfl rfl (ws' := cM w a th (tp + 1 + 1 + 1 + 1) sz q fr so nu fa pl wd sn gt gs ps (uX X 1 (upd (upd (upd (upd (X 1) tp (mB x 24)) (tp + 1) (mB x 16)) (tp + 1 + 1) (mB x 8)) (tp + 1 + 1 + 1) (mB x 0)))) rfl ?_
  refine V_iinc (-8) dX8_lays_33 2 rfl (by decide) rfl (L' := [(0, .ref (a 0)), (1, .int x), (2, .int (-8))]) rfl ?_
  refine V_goto 3 dX8_lays_36 (by decide) ?_
  refine V_iload_n dX8_lays_3 2 rfl ?_
  refine V_if_lt_t 39 dX8_lays_4 (by decide) (by decide) ?_
  exact V_vret dX8_lays_39 rfl (nb rfl) (nb rfl) ⟨rfl, rfl⟩

def mFd (t : Nat → Int32) (n : Nat) (x y z u v : Int32) : Nat → Int32 := mLay (mLay (mLay (mLay (mLay t n x) (n + 1 + 1 + 1 + 1) y) (n + 1 + 1 + 1 + 1 + 1 + 1 + 1 + 1) z) (n + 1 + 1 + 1 + 1 + 1 + 1 + 1 + 1 + 1 + 1 + 1 + 1) u) (n + 1 + 1 + 1 + 1 + 1 + 1 + 1 + 1 + 1 + 1 + 1 + 1 + 1 + 1 + 1 + 1) v
theorem uX_u {α : Type} (X : Nat → α) (k : Nat) (f g : α) : uX (uX X k f) k g = uX X k g := by
  funext j
  by_cases h : j = k
  · simp [uX, h]
  · simp [uX, h]

set_option maxRecDepth 100000 in
set_option maxHeartbeats 4000000 in
theorem c_M_feed (w : vWd) (a : Nat → Nat) (th : Int32) (tp sz q fr so : Nat) (nu : Int32) (fa pl : Nat) (wd : Int64) (sn : Nat) (gt : Int32) (gs ps : Nat) (X : Nat → Nat → Int32) (x y z u v : Int32) (hT : tp ≤ 640) : Ct w mX8_feed 1 0 0 [.ref (a 0), .int x, .int y, .int z, .int u, .int v] (cM w a th tp sz q fr so nu fa pl wd sn gt gs ps X) (qE (some (if tp + 20 ≤ 640 then .int (nI (tp + 20)) else .int (-1))) (if tp + 20 ≤ 640 then cM w a 0 (tp + 20) sz q fr so nu fa pl wd sn gt gs ps (uX X 1 (mFd (X 1) tp x y z u v)) else cM w a 0 tp sz q fr so nu fa pl wd sn gt gs ps X)) := by
  refine Ct.of (L := [(0, .ref (a 0)), (1, .int x), (2, .int y), (3, .int z), (4, .int u), (5, .int v)]) (by decide) rfl rfl ?_
  refine V_aload_n dX8_feed_0 0 rfl ?_
  refine V_iconst 0 dX8_feed_1 (by decide) ?_
  refine V_put dX8_feed_2 pX8_1 0 rfl rfl rfl rfl (ws' := cM w a 0 tp sz q fr so nu fa pl wd sn gt gs ps X) rfl ?_
  refine V_aload_n dX8_feed_5 0 rfl ?_
  refine V_get dX8_feed_6 fX8_11 0 rfl rfl ?_
  refine V_bipush 20 dX8_feed_9 (by decide) ?_
  refine V_iadd dX8_feed_11 ?_
  refine V_casti (y := nI (tp + 20)) (nI_add tp 20) ?_
  refine V_sipush 640 dX8_feed_12 (by decide) ?_
  refine V_icmp_le_n (tp + 20) 640 20 dX8_feed_15 (by decide) (by omega) (by omega) (fun zc1 => ?_) (fun zc1 => ?_)
  · refine V_aload_n dX8_feed_20 0 rfl ?_
    refine V_iload_n dX8_feed_21 1 rfl ?_
    refine V_selfE (ws' := cM w a 0 (tp + 1 + 1 + 1 + 1) sz q fr so nu fa pl wd sn gt gs ps (uX X 1 (mLay (X 1) tp x))) dX8_feed_22 lX8_14 (c_M_lays w a 0 tp sz q fr so nu fa pl wd sn gt gs ps X x (by omega)) rfl rfl 0 rfl rfl rfl rfl ?_
    refine V_aload_n dX8_feed_25 0 rfl ?_
    refine V_iload_n dX8_feed_26 2 rfl ?_
    refine V_selfE (ws' := cM w a 0 (tp + 1 + 1 + 1 + 1 + 1 + 1 + 1 + 1) sz q fr so nu fa pl wd sn gt gs ps (uX X 1 (mLay (mLay (X 1) tp x) (tp + 1 + 1 + 1 + 1) y))) dX8_feed_27 lX8_14 (c_M_lays w a 0 (tp + 1 + 1 + 1 + 1) sz q fr so nu fa pl wd sn gt gs ps (uX X 1 (mLay (X 1) tp x)) y (by omega)) rfl rfl 0 rfl rfl rfl rfl ?_
    refine V_aload_n dX8_feed_30 0 rfl ?_
    refine V_iload_n dX8_feed_31 3 rfl ?_
    refine V_selfE (ws' := cM w a 0 (tp + 1 + 1 + 1 + 1 + 1 + 1 + 1 + 1 + 1 + 1 + 1 + 1) sz q fr so nu fa pl wd sn gt gs ps (uX X 1 (mLay (mLay (mLay (X 1) tp x) (tp + 1 + 1 + 1 + 1) y) (tp + 1 + 1 + 1 + 1 + 1 + 1 + 1 + 1) z))) dX8_feed_32 lX8_14 (c_M_lays w a 0 (tp + 1 + 1 + 1 + 1 + 1 + 1 + 1 + 1) sz q fr so nu fa pl wd sn gt gs ps (uX X 1 (mLay (mLay (X 1) tp x) (tp + 1 + 1 + 1 + 1) y)) z (by omega)) rfl rfl 0 rfl rfl rfl rfl ?_
    refine V_aload_n dX8_feed_35 0 rfl ?_
    refine V_iload dX8_feed_36 4 rfl ?_
    refine V_selfE (ws' := cM w a 0 (tp + 1 + 1 + 1 + 1 + 1 + 1 + 1 + 1 + 1 + 1 + 1 + 1 + 1 + 1 + 1 + 1) sz q fr so nu fa pl wd sn gt gs ps (uX X 1 (mLay (mLay (mLay (mLay (X 1) tp x) (tp + 1 + 1 + 1 + 1) y) (tp + 1 + 1 + 1 + 1 + 1 + 1 + 1 + 1) z) (tp + 1 + 1 + 1 + 1 + 1 + 1 + 1 + 1 + 1 + 1 + 1 + 1) u))) dX8_feed_38 lX8_14 (c_M_lays w a 0 (tp + 1 + 1 + 1 + 1 + 1 + 1 + 1 + 1 + 1 + 1 + 1 + 1) sz q fr so nu fa pl wd sn gt gs ps (uX X 1 (mLay (mLay (mLay (X 1) tp x) (tp + 1 + 1 + 1 + 1) y) (tp + 1 + 1 + 1 + 1 + 1 + 1 + 1 + 1) z)) u (by omega)) rfl rfl 0 rfl rfl rfl rfl ?_
    refine V_aload_n dX8_feed_41 0 rfl ?_
    refine V_iload dX8_feed_42 5 rfl ?_
    refine V_selfE (ws' := cM w a 0 (tp + 1 + 1 + 1 + 1 + 1 + 1 + 1 + 1 + 1 + 1 + 1 + 1 + 1 + 1 + 1 + 1 + 1 + 1 + 1 + 1) sz q fr so nu fa pl wd sn gt gs ps (uX X 1 (mLay (mLay (mLay (mLay (mLay (X 1) tp x) (tp + 1 + 1 + 1 + 1) y) (tp + 1 + 1 + 1 + 1 + 1 + 1 + 1 + 1) z) (tp + 1 + 1 + 1 + 1 + 1 + 1 + 1 + 1 + 1 + 1 + 1 + 1) u) (tp + 1 + 1 + 1 + 1 + 1 + 1 + 1 + 1 + 1 + 1 + 1 + 1 + 1 + 1 + 1 + 1) v))) dX8_feed_44 lX8_14 (c_M_lays w a 0 (tp + 1 + 1 + 1 + 1 + 1 + 1 + 1 + 1 + 1 + 1 + 1 + 1 + 1 + 1 + 1 + 1) sz q fr so nu fa pl wd sn gt gs ps (uX X 1 (mLay (mLay (mLay (mLay (X 1) tp x) (tp + 1 + 1 + 1 + 1) y) (tp + 1 + 1 + 1 + 1 + 1 + 1 + 1 + 1) z) (tp + 1 + 1 + 1 + 1 + 1 + 1 + 1 + 1 + 1 + 1 + 1 + 1) u)) v (by omega)) rfl rfl 0 rfl rfl rfl rfl ?_
    refine V_aload_n dX8_feed_47 0 rfl ?_
    refine V_get dX8_feed_48 fX8_11 0 rfl rfl ?_
    exact V_iret dX8_feed_51 rfl (nb rfl) (nb rfl) ⟨by rw [if_pos (by omega)], by rw [if_pos (by omega)]; rfl⟩
  · refine V_iconst (-1) dX8_feed_18 (by decide) ?_
    exact V_iret dX8_feed_19 rfl (nb rfl) (nb rfl) ⟨by rw [if_neg (by omega)], by rw [if_neg (by omega)]⟩

set_option maxRecDepth 100000 in
set_option maxHeartbeats 4000000 in
theorem c_M_end (w : vWd) (a : Nat → Nat) (th : Int32) (tp sz q fr so : Nat) (nu : Int32) (fa pl : Nat) (wd : Int64) (sn : Nat) (gt : Int32) (gs ps : Nat) (X : Nat → Nat → Int32) (x : Int32) (hT : tp ≤ 640) : Ct w mX8_end 0 0 0 [.ref (a 0), .int x] (cM w a th tp sz q fr so nu fa pl wd sn gt gs ps X) (qE (some (.int (bi (tIn (tp, X 1) x)))) (cM w a 0 (if tIn (tp, X 1) x then x.toNatClampNeg else tp) sz q fr so nu fa pl wd sn gt gs ps X)) := by
  refine Ct.of (L := [(0, .ref (a 0)), (1, .int x)]) (by decide) rfl rfl ?_
  refine V_aload_n dX8_end_0 0 rfl ?_
  refine V_iconst 0 dX8_end_1 (by decide) ?_
  refine V_put dX8_end_2 pX8_1 0 rfl rfl rfl rfl (ws' := cM w a 0 tp sz q fr so nu fa pl wd sn gt gs ps X) rfl ?_
  refine V_iload_n dX8_end_5 1 rfl ?_
  refine V_if_lt 17 dX8_end_6 (by decide) (fun zc1 => ?_) (fun zc1 => ?_)
  · refine V_iconst 0 dX8_end_17 (by decide) ?_
    exact V_zret dX8_end_18 rfl rfl (nb rfl) (nb rfl) ⟨by grind [tIn, bi], by rw [if_neg (by grind [tIn])]⟩
  · refine V_iload_n dX8_end_9 1 rfl ?_
    refine V_aload_n dX8_end_10 0 rfl ?_
    refine V_get dX8_end_11 fX8_11 0 rfl rfl ?_
    refine V_icmp_le 19 dX8_end_14 (by decide) (fun zc2 => ?_) (fun zc2 => ?_)
    · refine V_aload_n dX8_end_19 0 rfl ?_
      refine V_iload_n dX8_end_20 1 rfl ?_
      have ht : tIn (tp, X 1) x = true := by grind [tIn]
      obtain ⟨j, hxj, hjn⟩ := tIn_true hT ht
      refine V_casti hxj ?_
      refine V_put dX8_end_21 pX8_11 0 rfl rfl rfl rfl (ws' := cM w a 0 j sz q fr so nu fa pl wd sn gt gs ps X) rfl ?_
      refine V_iconst 1 dX8_end_24 (by decide) ?_
      exact V_zret dX8_end_25 rfl rfl (nb rfl) (nb rfl) ⟨by rw [ht]; rfl, by rw [ht, if_pos rfl, hxj, nI_clamp (by simp only at hjn; omega)]⟩
    · refine V_iconst 0 dX8_end_17 (by decide) ?_
      exact V_zret dX8_end_18 rfl rfl (nb rfl) (nb rfl) ⟨by grind [tIn, bi], by rw [if_neg (by grind [tIn])]⟩

set_option maxRecDepth 100000 in
set_option maxHeartbeats 4000000 in
theorem c_M_tapeAt (w : vWd) (a : Nat → Nat) (th : Int32) (tp sz q fr so : Nat) (nu : Int32) (fa pl : Nat) (wd : Int64) (sn : Nat) (gt : Int32) (gs ps : Nat) (X : Nat → Nat → Int32) (p : Nat) (hp : p ≤ 640) (hs : sz ≤ 640) : Ct w mX8_tapeAt 0 0 0 [.ref (a 0), .int (nI p)] (cM w a th tp sz q fr so nu fa pl wd sn gt gs ps X) (qE (some (.int (tA (X 1) sz p))) (cM w a th tp sz q fr so nu fa pl wd sn gt gs ps X)) := by
  refine Ct.of (L := [(0, .ref (a 0)), (1, .int (nI p))]) (by decide) rfl rfl ?_
  refine V_iload_n dX8_tapeAt_0 1 rfl ?_
  refine V_aload_n dX8_tapeAt_1 0 rfl ?_
  refine V_get dX8_tapeAt_2 fX8_18 0 rfl rfl ?_
  refine V_icmp_ge_n p sz 17 dX8_tapeAt_5 (by decide) (by omega) (by omega) (fun zc1 => ?_) (fun zc1 => ?_)
  · refine V_iconst 0 dX8_tapeAt_17 (by decide) ?_
    exact V_iret dX8_tapeAt_18 rfl (nb rfl) (nb rfl) ⟨by rw [tA, if_neg (by omega)], rfl⟩
  · refine V_aload_n dX8_tapeAt_8 0 rfl ?_
    refine V_get dX8_tapeAt_9 fX8_7 0 rfl rfl ?_
    refine V_iload_n dX8_tapeAt_12 1 rfl ?_
    refine V_iald dX8_tapeAt_13 1 rfl rfl p rfl (by omega) ?_
    refine V_goto 18 dX8_tapeAt_14 (by decide) ?_
    exact V_iret dX8_tapeAt_18 rfl (nb rfl) (nb rfl) ⟨by rw [tA, if_pos zc1], rfl⟩

/-- the first place from p that is no blank -/
def skp (t : Nat → Int32) (n : Nat) : Nat → Nat → Nat
  | 0, p => p
  | m + 1, p => if p < n ∧ (t p = 32 ∨ t p = 10) then skp t n m (p + 1) else p
theorem skp_le {t : Nat → Int32} {n : Nat} : ∀ {m p : Nat}, p ≤ n → p ≤ skp t n m p ∧ skp t n m p ≤ n
  | 0, p, h => ⟨Nat.le_refl _, h⟩
  | m + 1, p, h => by
    unfold skp
    split
    · next c => have := skp_le (t := t) (m := m) (p := p + 1) (show p + 1 ≤ n by omega); omega
    · omega
/-- a run of letters and digits: where it ends, whether all are of one sort, the word, the number -/
def rn (t : Nat → Int32) (n f : Nat) (lt : Bool) : Nat → Nat → Bool → Int64 → Int32 → Nat × Bool × Int64 × Int32
  | 0, p, g, wd, nu => (p, g, wd, nu)
  | m + 1, p, g, wd, nu => if isL (tA t n p) || isD (tA t n p) then rn t n f lt m (p + 1) (g && (isL (t p) == lt)) (if p - f < 9 then 27 * wd + (t p).toInt64 - 96 else wd) (if p - f < 5 then 10 * nu + t p - 48 else nu) else (p, g, wd, nu)
theorem rn_lt {t : Nat → Int32} {n p : Nat} (h : (isL (tA t n p) || isD (tA t n p)) = true) : p < n := by
  by_cases c : p < n
  · exact c
  · rw [tA, if_neg c] at h; exact absurd h (by decide)
theorem rn_le {t : Nat → Int32} {n f : Nat} {lt : Bool} : ∀ {m p : Nat} {g : Bool} {wd : Int64} {nu : Int32}, p ≤ n → p ≤ (rn t n f lt m p g wd nu).1 ∧ (rn t n f lt m p g wd nu).1 ≤ n
  | 0, p, g, wd, nu, h => ⟨Nat.le_refl _, h⟩
  | m + 1, p, g, wd, nu, h => by
    unfold rn
    split
    · next c =>
      have := rn_lt c
      have := rn_le (t := t) (n := n) (f := f) (lt := lt) (m := m) (p := p + 1) (g := g && (isL (t p) == lt)) (wd := if p - f < 9 then 27 * wd + (t p).toInt64 - 96 else wd) (nu := if p - f < 5 then 10 * nu + t p - 48 else nu) (by omega)
      omega
    · exact ⟨Nat.le_refl _, h⟩
abbrev rnA (t : Nat → Int32) (n f : Nat) : Nat × Bool × Int64 × Int32 := rn t n f (isL (t f)) (n + 1 - f) f true 0 0
def soR (lt g : Bool) (n : Nat) : Nat := if !g || (!lt && decide (5 < n)) then 1 else if lt then 2 else 3
/-- the token at f: where it ends, where it begins, its sort, the number, the word -/
def goS (t : Nat → Int32) (n f : Nat) (nu : Int32) (wd : Int64) : Nat × Nat × Nat × Int32 × Int64 :=
  if 600 < n ∧ 600 ≤ f then (f, 600, 1, nu, wd) else if n ≤ f then (f, f, 0, nu, wd) else if isL (t f) || isD (t f) then ((rnA t n f).1, f, soR (isL (t f)) (rnA t n f).2.1 ((rnA t n f).1 - f), (rnA t n f).2.2.2, (rnA t n f).2.2.1) else (f + 1, f, if t f = 59 ∨ t f = 45 then 4 else 1, nu, (t f).toInt64)
def goR (t : Nat → Int32) (n p : Nat) (nu : Int32) (wd : Int64) : Nat × Nat × Nat × Int32 × Int64 := goS t n (skp t n (n - p) p) nu wd

set_option maxRecDepth 100000 in
set_option maxHeartbeats 4000000 in
theorem g_324 (w : vWd) (a : Nat → Nat) (th : Int32) (tp sz : Nat) (fa pl sn : Nat) (gt : Int32) (gs ps : Nat) (X : Nat → Nat → Int32) (fr so : Nat) (nu0 : Int32) (wd0 : Int64) (hs : sz ≤ 640) (hf : fr < sz) (hc : (isL (X 1 fr) || isD (X 1 fr)) = true) (h6 : ¬ (600 < sz ∧ 600 ≤ fr)) : V w mX8_go (vc w 1 0 0 (qE none (cM w a th tp sz (goS (X 1) sz fr nu0 wd0).1 (goS (X 1) sz fr nu0 wd0).2.1 (goS (X 1) sz fr nu0 wd0).2.2.1 (goS (X 1) sz fr nu0 wd0).2.2.2.1 fa pl (goS (X 1) sz fr nu0 wd0).2.2.2.2 sn gt gs ps X))) 0 0 324 [(0, .ref (a 0)), (1, .int (X 1 fr)), (2, .int (bi (isL (X 1 fr)))), (3, .int (bi ((rnA (X 1) sz fr).2.1)))] [] (cM w a th tp sz ((rnA (X 1) sz fr).1) fr so ((rnA (X 1) sz fr).2.2.2) fa pl ((rnA (X 1) sz fr).2.2.1) sn gt gs ps X) := by
  have hle : fr ≤ (rnA (X 1) sz fr).1 ∧ (rnA (X 1) sz fr).1 ≤ sz := rn_le (by omega)
  refine V_aload_n dX8_go_324 0 rfl ?_
  refine V_iload_n dX8_go_325 3 rfl ?_
  refine V_ifeq_b 346 dX8_go_326 (by decide) (fun zc1 => ?_) (fun zc1 => ?_)
  · refine V_iconst 1 dX8_go_346 (by decide) ?_
    refine V_goto 359 dX8_go_347 (by decide) ?_
    refine V_put dX8_go_359 pX8_27 0 rfl rfl rfl rfl (ws' := cM w a th tp sz ((rnA (X 1) sz fr).1) fr 1 ((rnA (X 1) sz fr).2.2.2) fa pl ((rnA (X 1) sz fr).2.2.1) sn gt gs ps X) rfl ?_
    exact V_vret dX8_go_362 rfl (nb rfl) (nb rfl) ⟨rfl, by rw [show goS (X 1) sz fr nu0 wd0 = ((rnA (X 1) sz fr).1, fr, 1, (rnA (X 1) sz fr).2.2.2, (rnA (X 1) sz fr).2.2.1) by grind [goS, soR]]⟩
  · refine V_iload_n dX8_go_329 2 rfl ?_
    refine V_ifne_b 350 dX8_go_330 (by decide) (fun zc2 => ?_) (fun zc2 => ?_)
    · refine V_iload_n dX8_go_350 2 rfl ?_
      refine V_ifeq_b 358 dX8_go_351 (by decide) (fun zc3 => ?_) (fun zc3 => ?_)
      · refine V_iconst 3 dX8_go_358 (by decide) ?_
        refine V_put dX8_go_359 pX8_27 0 rfl rfl rfl rfl (ws' := cM w a th tp sz ((rnA (X 1) sz fr).1) fr 3 ((rnA (X 1) sz fr).2.2.2) fa pl ((rnA (X 1) sz fr).2.2.1) sn gt gs ps X) rfl ?_
        exact V_vret dX8_go_362 rfl (nb rfl) (nb rfl) ⟨rfl, by rw [show goS (X 1) sz fr nu0 wd0 = ((rnA (X 1) sz fr).1, fr, 3, (rnA (X 1) sz fr).2.2.2, (rnA (X 1) sz fr).2.2.1) by grind [goS, soR]]⟩
      · refine V_iconst 2 dX8_go_354 (by decide) ?_
        refine V_goto 359 dX8_go_355 (by decide) ?_
        refine V_put dX8_go_359 pX8_27 0 rfl rfl rfl rfl (ws' := cM w a th tp sz ((rnA (X 1) sz fr).1) fr 2 ((rnA (X 1) sz fr).2.2.2) fa pl ((rnA (X 1) sz fr).2.2.1) sn gt gs ps X) rfl ?_
        exact V_vret dX8_go_362 rfl (nb rfl) (nb rfl) ⟨rfl, by rw [show goS (X 1) sz fr nu0 wd0 = ((rnA (X 1) sz fr).1, fr, 2, (rnA (X 1) sz fr).2.2.2, (rnA (X 1) sz fr).2.2.1) by grind [goS, soR]]⟩
    · refine V_aload_n dX8_go_333 0 rfl ?_
      refine V_get dX8_go_334 fX8_21 0 rfl rfl ?_
      refine V_aload_n dX8_go_337 0 rfl ?_
      refine V_get dX8_go_338 fX8_24 0 rfl rfl ?_
      refine V_isub dX8_go_341 ?_
      refine V_casti (y := nI ((rnA (X 1) sz fr).1 - fr)) (pk_sub (by omega)) ?_
      refine V_iconst 5 dX8_go_342 (by decide) ?_
      refine V_icmp_le_n ((rnA (X 1) sz fr).1 - fr) 5 350 dX8_go_343 (by decide) (by omega) (by omega) (fun zc4 => ?_) (fun zc4 => ?_)
      · refine V_iload_n dX8_go_350 2 rfl ?_
        refine V_ifeq_b 358 dX8_go_351 (by decide) (fun zc5 => ?_) (fun zc5 => ?_)
        · refine V_iconst 3 dX8_go_358 (by decide) ?_
          refine V_put dX8_go_359 pX8_27 0 rfl rfl rfl rfl (ws' := cM w a th tp sz ((rnA (X 1) sz fr).1) fr 3 ((rnA (X 1) sz fr).2.2.2) fa pl ((rnA (X 1) sz fr).2.2.1) sn gt gs ps X) rfl ?_
          exact V_vret dX8_go_362 rfl (nb rfl) (nb rfl) ⟨rfl, by rw [show goS (X 1) sz fr nu0 wd0 = ((rnA (X 1) sz fr).1, fr, 3, (rnA (X 1) sz fr).2.2.2, (rnA (X 1) sz fr).2.2.1) by grind [goS, soR]]⟩
        · refine V_iconst 2 dX8_go_354 (by decide) ?_
          refine V_goto 359 dX8_go_355 (by decide) ?_
          refine V_put dX8_go_359 pX8_27 0 rfl rfl rfl rfl (ws' := cM w a th tp sz ((rnA (X 1) sz fr).1) fr 2 ((rnA (X 1) sz fr).2.2.2) fa pl ((rnA (X 1) sz fr).2.2.1) sn gt gs ps X) rfl ?_
          exact V_vret dX8_go_362 rfl (nb rfl) (nb rfl) ⟨rfl, by rw [show goS (X 1) sz fr nu0 wd0 = ((rnA (X 1) sz fr).1, fr, 2, (rnA (X 1) sz fr).2.2.2, (rnA (X 1) sz fr).2.2.1) by grind [goS, soR]]⟩
      · refine V_iconst 1 dX8_go_346 (by decide) ?_
        refine V_goto 359 dX8_go_347 (by decide) ?_
        refine V_put dX8_go_359 pX8_27 0 rfl rfl rfl rfl (ws' := cM w a th tp sz ((rnA (X 1) sz fr).1) fr 1 ((rnA (X 1) sz fr).2.2.2) fa pl ((rnA (X 1) sz fr).2.2.1) sn gt gs ps X) rfl ?_
        exact V_vret dX8_go_362 rfl (nb rfl) (nb rfl) ⟨rfl, by rw [show goS (X 1) sz fr nu0 wd0 = ((rnA (X 1) sz fr).1, fr, 1, (rnA (X 1) sz fr).2.2.2, (rnA (X 1) sz fr).2.2.1) by grind [goS, soR]]⟩

set_option maxRecDepth 100000 in
set_option maxHeartbeats 4000000 in
theorem lp_M_go2 (w : vWd) (a : Nat → Nat) (th : Int32) (tp sz : Nat) (fa pl sn : Nat) (gt : Int32) (gs ps : Nat) (X : Nat → Nat → Int32) (fr so : Nat) (nu0 : Int32) (wd0 : Int64) (hs : sz ≤ 640) (hf : fr < sz) (hc : (isL (X 1 fr) || isD (X 1 fr)) = true) (h6 : ¬ (600 < sz ∧ 600 ≤ fr)) : ∀ (m : Nat) (q : Nat) (g : Bool) (wd : Int64) (nu : Int32), (sz + 1 ≤ q + m) → (q ≤ sz) → (fr ≤ q) → (rn (X 1) sz fr (isL (X 1 fr)) m q g wd nu = rnA (X 1) sz fr) → V w mX8_go (vc w 1 0 0 (qE none (cM w a th tp sz (goS (X 1) sz fr nu0 wd0).1 (goS (X 1) sz fr nu0 wd0).2.1 (goS (X 1) sz fr nu0 wd0).2.2.1 (goS (X 1) sz fr nu0 wd0).2.2.2.1 fa pl (goS (X 1) sz fr nu0 wd0).2.2.2.2 sn gt gs ps X))) 0 0 189 [(0, .ref (a 0)), (1, .int (X 1 fr)), (2, .int (bi (isL (X 1 fr)))), (3, .int (bi (g)))] [] (cM w a th tp sz q fr so nu fa pl wd sn gt gs ps X) := by
  intro m
  induction m with
  | zero =>
    intro q g wd nu h1 h2 h3 hR
    exact absurd h1 (by omega)
  | succ m ih =>
    intro q g wd nu h1 h2 h3 hR
    refine V_aload_n dX8_go_189 0 rfl ?_
    refine V_aload_n dX8_go_190 0 rfl ?_
    refine V_get dX8_go_191 fX8_21 0 rfl rfl ?_
    refine V_selfR dX8_go_194 lX8_44 (c_M_tapeAt w a th tp sz q fr so nu fa pl wd sn gt gs ps X q (by omega) (by omega)) rfl rfl 0 rfl rfl rfl rfl ?_
    refine V_purS dX8_go_197 lX8_30 (c_M_isLetter w (tA (X 1) sz q)) rfl rfl rfl ?_
    refine V_ifne_b 217 dX8_go_200 (by decide) (fun zc1 => ?_) (fun zc1 => ?_)
    · have hqs : q < sz := rn_lt (t := X 1) (by grind)
      refine V_aload_n dX8_go_217 0 rfl ?_
      refine V_get dX8_go_218 fX8_7 0 rfl rfl ?_
      refine V_aload_n dX8_go_221 0 rfl ?_
      refine V_get dX8_go_222 fX8_21 0 rfl rfl ?_
      refine V_iald dX8_go_225 1 rfl rfl q rfl (by omega) ?_
      refine V_istore dX8_go_226 rfl (L' := [(0, .ref (a 0)), (1, .int (X 1 fr)), (2, .int (bi (isL (X 1 fr)))), (3, .int (bi (g))), (4, .int ((X 1) q))]) rfl ?_
      refine V_iload_n dX8_go_228 3 rfl ?_
      refine V_ifeq_b 245 dX8_go_229 (by decide) (fun zc2 => ?_) (fun zc2 => ?_)
      · refine V_iconst 0 dX8_go_245 (by decide) ?_
        refine V_istore_n dX8_go_246 rfl (L' := [(0, .ref (a 0)), (1, .int (X 1 fr)), (2, .int (bi (isL (X 1 fr)))), (3, .int 0), (4, .int ((X 1) q))]) rfl ?_
        refine V_aload_n dX8_go_247 0 rfl ?_
        refine V_get dX8_go_248 fX8_21 0 rfl rfl ?_
        refine V_aload_n dX8_go_251 0 rfl ?_
        refine V_get dX8_go_252 fX8_24 0 rfl rfl ?_
        refine V_isub dX8_go_255 ?_
        refine V_casti (y := nI (q - fr)) (pk_sub (by omega)) ?_
        refine V_bipush 9 dX8_go_256 (by decide) ?_
        refine V_icmp_ge_n (q - fr) 9 281 dX8_go_258 (by decide) (by omega) (by omega) (fun zc3 => ?_) (fun zc3 => ?_)
        · refine V_aload_n dX8_go_281 0 rfl ?_
          refine V_get dX8_go_282 fX8_21 0 rfl rfl ?_
          refine V_aload_n dX8_go_285 0 rfl ?_
          refine V_get dX8_go_286 fX8_24 0 rfl rfl ?_
          refine V_isub dX8_go_289 ?_
          refine V_casti (y := nI (q - fr)) (pk_sub (by omega)) ?_
          refine V_iconst 5 dX8_go_290 (by decide) ?_
          refine V_icmp_ge_n (q - fr) 5 311 dX8_go_291 (by decide) (by omega) (by omega) (fun zc4 => ?_) (fun zc4 => ?_)
          · refine V_aload_n dX8_go_311 0 rfl ?_
            refine V_dup dX8_go_312 rfl ?_
            refine V_get dX8_go_313 fX8_21 0 rfl rfl ?_
            refine V_iconst 1 dX8_go_316 (by decide) ?_
            refine V_iadd dX8_go_317 ?_
            refine V_casti (y := nI (q + 1)) (nI_add q 1) ?_
            refine V_put dX8_go_318 pX8_21 0 rfl rfl rfl rfl (ws' := cM w a th tp sz (q + 1) fr so nu fa pl wd sn gt gs ps X) rfl ?_
            refine V_goto 189 dX8_go_321 (by decide) ?_
            refine V_dropL (L' := [(0, .ref (a 0)), (1, .int (X 1 fr)), (2, .int (bi (isL (X 1 fr)))), (3, .int 0)]) (L'' := [(4, .int ((X 1) q))]) rfl ?_
            exact ih (q + 1) false wd nu (by omega) (by omega) (by omega) (by rw [← hR, rn, if_pos (by grind), show (g && (isL (X 1 q) == isL (X 1 fr))) = false by grind, if_neg (by omega), if_neg (by omega)])
          · refine V_aload_n dX8_go_294 0 rfl ?_
            refine V_bipush 10 dX8_go_295 (by decide) ?_
            refine V_aload_n dX8_go_297 0 rfl ?_
            refine V_get dX8_go_298 fX8_41 0 rfl rfl ?_
            refine V_imul dX8_go_301 ?_
            refine V_iload dX8_go_302 4 rfl ?_
            refine V_iadd dX8_go_304 ?_
            refine V_bipush 48 dX8_go_305 (by decide) ?_
            refine V_isub dX8_go_307 ?_
            refine V_put dX8_go_308 pX8_41 0 rfl rfl rfl rfl (ws' := cM w a th tp sz q fr so (((10 * nu) + ((X 1) q)) - 48) fa pl wd sn gt gs ps X) rfl ?_
            refine V_aload_n dX8_go_311 0 rfl ?_
            refine V_dup dX8_go_312 rfl ?_
            refine V_get dX8_go_313 fX8_21 0 rfl rfl ?_
            refine V_iconst 1 dX8_go_316 (by decide) ?_
            refine V_iadd dX8_go_317 ?_
            refine V_casti (y := nI (q + 1)) (nI_add q 1) ?_
            refine V_put dX8_go_318 pX8_21 0 rfl rfl rfl rfl (ws' := cM w a th tp sz (q + 1) fr so (((10 * nu) + ((X 1) q)) - 48) fa pl wd sn gt gs ps X) rfl ?_
            refine V_goto 189 dX8_go_321 (by decide) ?_
            refine V_dropL (L' := [(0, .ref (a 0)), (1, .int (X 1 fr)), (2, .int (bi (isL (X 1 fr)))), (3, .int 0)]) (L'' := [(4, .int ((X 1) q))]) rfl ?_
            exact ih (q + 1) false wd (((10 * nu) + ((X 1) q)) - 48) (by omega) (by omega) (by omega) (by rw [← hR, rn, if_pos (by grind), show (g && (isL (X 1 q) == isL (X 1 fr))) = false by grind, if_neg (by omega), if_pos (by omega)])
        · refine V_aload_n dX8_go_261 0 rfl ?_
          refine V_ldc2 dX8_go_262 kX8_48 ?_
          refine V_aload_n dX8_go_265 0 rfl ?_
          refine V_get dX8_go_266 fX8_37 0 rfl rfl ?_
          refine V_lmul dX8_go_269 ?_
          refine V_iload dX8_go_270 4 rfl ?_
          refine V_i2l dX8_go_272 ?_
          refine V_ladd dX8_go_273 ?_
          refine V_ldc2 dX8_go_274 kX8_50 ?_
          refine V_lsub dX8_go_277 ?_
          refine V_put dX8_go_278 pX8_37 0 rfl rfl rfl rfl (ws' := cM w a th tp sz q fr so nu fa pl (((27 * wd) + (Int32.toInt64 ((X 1) q))) - 96) sn gt gs ps X) rfl ?_
          refine V_aload_n dX8_go_281 0 rfl ?_
          refine V_get dX8_go_282 fX8_21 0 rfl rfl ?_
          refine V_aload_n dX8_go_285 0 rfl ?_
          refine V_get dX8_go_286 fX8_24 0 rfl rfl ?_
          refine V_isub dX8_go_289 ?_
          refine V_casti (y := nI (q - fr)) (pk_sub (by omega)) ?_
          refine V_iconst 5 dX8_go_290 (by decide) ?_
          refine V_icmp_ge_n (q - fr) 5 311 dX8_go_291 (by decide) (by omega) (by omega) (fun zc5 => ?_) (fun zc5 => ?_)
          · refine V_aload_n dX8_go_311 0 rfl ?_
            refine V_dup dX8_go_312 rfl ?_
            refine V_get dX8_go_313 fX8_21 0 rfl rfl ?_
            refine V_iconst 1 dX8_go_316 (by decide) ?_
            refine V_iadd dX8_go_317 ?_
            refine V_casti (y := nI (q + 1)) (nI_add q 1) ?_
            refine V_put dX8_go_318 pX8_21 0 rfl rfl rfl rfl (ws' := cM w a th tp sz (q + 1) fr so nu fa pl (((27 * wd) + (Int32.toInt64 ((X 1) q))) - 96) sn gt gs ps X) rfl ?_
            refine V_goto 189 dX8_go_321 (by decide) ?_
            refine V_dropL (L' := [(0, .ref (a 0)), (1, .int (X 1 fr)), (2, .int (bi (isL (X 1 fr)))), (3, .int 0)]) (L'' := [(4, .int ((X 1) q))]) rfl ?_
            exact ih (q + 1) false (((27 * wd) + (Int32.toInt64 ((X 1) q))) - 96) nu (by omega) (by omega) (by omega) (by rw [← hR, rn, if_pos (by grind), show (g && (isL (X 1 q) == isL (X 1 fr))) = false by grind, if_pos (by omega), if_neg (by omega)])
          · refine V_aload_n dX8_go_294 0 rfl ?_
            refine V_bipush 10 dX8_go_295 (by decide) ?_
            refine V_aload_n dX8_go_297 0 rfl ?_
            refine V_get dX8_go_298 fX8_41 0 rfl rfl ?_
            refine V_imul dX8_go_301 ?_
            refine V_iload dX8_go_302 4 rfl ?_
            refine V_iadd dX8_go_304 ?_
            refine V_bipush 48 dX8_go_305 (by decide) ?_
            refine V_isub dX8_go_307 ?_
            refine V_put dX8_go_308 pX8_41 0 rfl rfl rfl rfl (ws' := cM w a th tp sz q fr so (((10 * nu) + ((X 1) q)) - 48) fa pl (((27 * wd) + (Int32.toInt64 ((X 1) q))) - 96) sn gt gs ps X) rfl ?_
            refine V_aload_n dX8_go_311 0 rfl ?_
            refine V_dup dX8_go_312 rfl ?_
            refine V_get dX8_go_313 fX8_21 0 rfl rfl ?_
            refine V_iconst 1 dX8_go_316 (by decide) ?_
            refine V_iadd dX8_go_317 ?_
            refine V_casti (y := nI (q + 1)) (nI_add q 1) ?_
            refine V_put dX8_go_318 pX8_21 0 rfl rfl rfl rfl (ws' := cM w a th tp sz (q + 1) fr so (((10 * nu) + ((X 1) q)) - 48) fa pl (((27 * wd) + (Int32.toInt64 ((X 1) q))) - 96) sn gt gs ps X) rfl ?_
            refine V_goto 189 dX8_go_321 (by decide) ?_
            refine V_dropL (L' := [(0, .ref (a 0)), (1, .int (X 1 fr)), (2, .int (bi (isL (X 1 fr)))), (3, .int 0)]) (L'' := [(4, .int ((X 1) q))]) rfl ?_
            exact ih (q + 1) false (((27 * wd) + (Int32.toInt64 ((X 1) q))) - 96) (((10 * nu) + ((X 1) q)) - 48) (by omega) (by omega) (by omega) (by rw [← hR, rn, if_pos (by grind), show (g && (isL (X 1 q) == isL (X 1 fr))) = false by grind, if_pos (by omega), if_pos (by omega)])
      · refine V_iload dX8_go_232 4 rfl ?_
        refine V_purS dX8_go_234 lX8_30 (c_M_isLetter w ((X 1) q)) rfl rfl rfl ?_
        refine V_iload_n dX8_go_237 2 rfl ?_
        refine V_icmp_ne_bb 245 dX8_go_238 (by decide) (fun zc6 => ?_) (fun zc6 => ?_)
        · refine V_iconst 0 dX8_go_245 (by decide) ?_
          refine V_istore_n dX8_go_246 rfl (L' := [(0, .ref (a 0)), (1, .int (X 1 fr)), (2, .int (bi (isL (X 1 fr)))), (3, .int 0), (4, .int ((X 1) q))]) rfl ?_
          refine V_aload_n dX8_go_247 0 rfl ?_
          refine V_get dX8_go_248 fX8_21 0 rfl rfl ?_
          refine V_aload_n dX8_go_251 0 rfl ?_
          refine V_get dX8_go_252 fX8_24 0 rfl rfl ?_
          refine V_isub dX8_go_255 ?_
          refine V_casti (y := nI (q - fr)) (pk_sub (by omega)) ?_
          refine V_bipush 9 dX8_go_256 (by decide) ?_
          refine V_icmp_ge_n (q - fr) 9 281 dX8_go_258 (by decide) (by omega) (by omega) (fun zc7 => ?_) (fun zc7 => ?_)
          · refine V_aload_n dX8_go_281 0 rfl ?_
            refine V_get dX8_go_282 fX8_21 0 rfl rfl ?_
            refine V_aload_n dX8_go_285 0 rfl ?_
            refine V_get dX8_go_286 fX8_24 0 rfl rfl ?_
            refine V_isub dX8_go_289 ?_
            refine V_casti (y := nI (q - fr)) (pk_sub (by omega)) ?_
            refine V_iconst 5 dX8_go_290 (by decide) ?_
            refine V_icmp_ge_n (q - fr) 5 311 dX8_go_291 (by decide) (by omega) (by omega) (fun zc8 => ?_) (fun zc8 => ?_)
            · refine V_aload_n dX8_go_311 0 rfl ?_
              refine V_dup dX8_go_312 rfl ?_
              refine V_get dX8_go_313 fX8_21 0 rfl rfl ?_
              refine V_iconst 1 dX8_go_316 (by decide) ?_
              refine V_iadd dX8_go_317 ?_
              refine V_casti (y := nI (q + 1)) (nI_add q 1) ?_
              refine V_put dX8_go_318 pX8_21 0 rfl rfl rfl rfl (ws' := cM w a th tp sz (q + 1) fr so nu fa pl wd sn gt gs ps X) rfl ?_
              refine V_goto 189 dX8_go_321 (by decide) ?_
              refine V_dropL (L' := [(0, .ref (a 0)), (1, .int (X 1 fr)), (2, .int (bi (isL (X 1 fr)))), (3, .int 0)]) (L'' := [(4, .int ((X 1) q))]) rfl ?_
              exact ih (q + 1) false wd nu (by omega) (by omega) (by omega) (by rw [← hR, rn, if_pos (by grind), show (g && (isL (X 1 q) == isL (X 1 fr))) = false by grind, if_neg (by omega), if_neg (by omega)])
            · refine V_aload_n dX8_go_294 0 rfl ?_
              refine V_bipush 10 dX8_go_295 (by decide) ?_
              refine V_aload_n dX8_go_297 0 rfl ?_
              refine V_get dX8_go_298 fX8_41 0 rfl rfl ?_
              refine V_imul dX8_go_301 ?_
              refine V_iload dX8_go_302 4 rfl ?_
              refine V_iadd dX8_go_304 ?_
              refine V_bipush 48 dX8_go_305 (by decide) ?_
              refine V_isub dX8_go_307 ?_
              refine V_put dX8_go_308 pX8_41 0 rfl rfl rfl rfl (ws' := cM w a th tp sz q fr so (((10 * nu) + ((X 1) q)) - 48) fa pl wd sn gt gs ps X) rfl ?_
              refine V_aload_n dX8_go_311 0 rfl ?_
              refine V_dup dX8_go_312 rfl ?_
              refine V_get dX8_go_313 fX8_21 0 rfl rfl ?_
              refine V_iconst 1 dX8_go_316 (by decide) ?_
              refine V_iadd dX8_go_317 ?_
              refine V_casti (y := nI (q + 1)) (nI_add q 1) ?_
              refine V_put dX8_go_318 pX8_21 0 rfl rfl rfl rfl (ws' := cM w a th tp sz (q + 1) fr so (((10 * nu) + ((X 1) q)) - 48) fa pl wd sn gt gs ps X) rfl ?_
              refine V_goto 189 dX8_go_321 (by decide) ?_
              refine V_dropL (L' := [(0, .ref (a 0)), (1, .int (X 1 fr)), (2, .int (bi (isL (X 1 fr)))), (3, .int 0)]) (L'' := [(4, .int ((X 1) q))]) rfl ?_
              exact ih (q + 1) false wd (((10 * nu) + ((X 1) q)) - 48) (by omega) (by omega) (by omega) (by rw [← hR, rn, if_pos (by grind), show (g && (isL (X 1 q) == isL (X 1 fr))) = false by grind, if_neg (by omega), if_pos (by omega)])
          · refine V_aload_n dX8_go_261 0 rfl ?_
            refine V_ldc2 dX8_go_262 kX8_48 ?_
            refine V_aload_n dX8_go_265 0 rfl ?_
            refine V_get dX8_go_266 fX8_37 0 rfl rfl ?_
            refine V_lmul dX8_go_269 ?_
            refine V_iload dX8_go_270 4 rfl ?_
            refine V_i2l dX8_go_272 ?_
            refine V_ladd dX8_go_273 ?_
            refine V_ldc2 dX8_go_274 kX8_50 ?_
            refine V_lsub dX8_go_277 ?_
            refine V_put dX8_go_278 pX8_37 0 rfl rfl rfl rfl (ws' := cM w a th tp sz q fr so nu fa pl (((27 * wd) + (Int32.toInt64 ((X 1) q))) - 96) sn gt gs ps X) rfl ?_
            refine V_aload_n dX8_go_281 0 rfl ?_
            refine V_get dX8_go_282 fX8_21 0 rfl rfl ?_
            refine V_aload_n dX8_go_285 0 rfl ?_
            refine V_get dX8_go_286 fX8_24 0 rfl rfl ?_
            refine V_isub dX8_go_289 ?_
            refine V_casti (y := nI (q - fr)) (pk_sub (by omega)) ?_
            refine V_iconst 5 dX8_go_290 (by decide) ?_
            refine V_icmp_ge_n (q - fr) 5 311 dX8_go_291 (by decide) (by omega) (by omega) (fun zc9 => ?_) (fun zc9 => ?_)
            · refine V_aload_n dX8_go_311 0 rfl ?_
              refine V_dup dX8_go_312 rfl ?_
              refine V_get dX8_go_313 fX8_21 0 rfl rfl ?_
              refine V_iconst 1 dX8_go_316 (by decide) ?_
              refine V_iadd dX8_go_317 ?_
              refine V_casti (y := nI (q + 1)) (nI_add q 1) ?_
              refine V_put dX8_go_318 pX8_21 0 rfl rfl rfl rfl (ws' := cM w a th tp sz (q + 1) fr so nu fa pl (((27 * wd) + (Int32.toInt64 ((X 1) q))) - 96) sn gt gs ps X) rfl ?_
              refine V_goto 189 dX8_go_321 (by decide) ?_
              refine V_dropL (L' := [(0, .ref (a 0)), (1, .int (X 1 fr)), (2, .int (bi (isL (X 1 fr)))), (3, .int 0)]) (L'' := [(4, .int ((X 1) q))]) rfl ?_
              exact ih (q + 1) false (((27 * wd) + (Int32.toInt64 ((X 1) q))) - 96) nu (by omega) (by omega) (by omega) (by rw [← hR, rn, if_pos (by grind), show (g && (isL (X 1 q) == isL (X 1 fr))) = false by grind, if_pos (by omega), if_neg (by omega)])
            · refine V_aload_n dX8_go_294 0 rfl ?_
              refine V_bipush 10 dX8_go_295 (by decide) ?_
              refine V_aload_n dX8_go_297 0 rfl ?_
              refine V_get dX8_go_298 fX8_41 0 rfl rfl ?_
              refine V_imul dX8_go_301 ?_
              refine V_iload dX8_go_302 4 rfl ?_
              refine V_iadd dX8_go_304 ?_
              refine V_bipush 48 dX8_go_305 (by decide) ?_
              refine V_isub dX8_go_307 ?_
              refine V_put dX8_go_308 pX8_41 0 rfl rfl rfl rfl (ws' := cM w a th tp sz q fr so (((10 * nu) + ((X 1) q)) - 48) fa pl (((27 * wd) + (Int32.toInt64 ((X 1) q))) - 96) sn gt gs ps X) rfl ?_
              refine V_aload_n dX8_go_311 0 rfl ?_
              refine V_dup dX8_go_312 rfl ?_
              refine V_get dX8_go_313 fX8_21 0 rfl rfl ?_
              refine V_iconst 1 dX8_go_316 (by decide) ?_
              refine V_iadd dX8_go_317 ?_
              refine V_casti (y := nI (q + 1)) (nI_add q 1) ?_
              refine V_put dX8_go_318 pX8_21 0 rfl rfl rfl rfl (ws' := cM w a th tp sz (q + 1) fr so (((10 * nu) + ((X 1) q)) - 48) fa pl (((27 * wd) + (Int32.toInt64 ((X 1) q))) - 96) sn gt gs ps X) rfl ?_
              refine V_goto 189 dX8_go_321 (by decide) ?_
              refine V_dropL (L' := [(0, .ref (a 0)), (1, .int (X 1 fr)), (2, .int (bi (isL (X 1 fr)))), (3, .int 0)]) (L'' := [(4, .int ((X 1) q))]) rfl ?_
              exact ih (q + 1) false (((27 * wd) + (Int32.toInt64 ((X 1) q))) - 96) (((10 * nu) + ((X 1) q)) - 48) (by omega) (by omega) (by omega) (by rw [← hR, rn, if_pos (by grind), show (g && (isL (X 1 q) == isL (X 1 fr))) = false by grind, if_pos (by omega), if_pos (by omega)])
        · refine V_iconst 1 dX8_go_241 (by decide) ?_
          refine V_goto 246 dX8_go_242 (by decide) ?_
          refine V_istore_n dX8_go_246 rfl (L' := [(0, .ref (a 0)), (1, .int (X 1 fr)), (2, .int (bi (isL (X 1 fr)))), (3, .int 1), (4, .int ((X 1) q))]) rfl ?_
          refine V_aload_n dX8_go_247 0 rfl ?_
          refine V_get dX8_go_248 fX8_21 0 rfl rfl ?_
          refine V_aload_n dX8_go_251 0 rfl ?_
          refine V_get dX8_go_252 fX8_24 0 rfl rfl ?_
          refine V_isub dX8_go_255 ?_
          refine V_casti (y := nI (q - fr)) (pk_sub (by omega)) ?_
          refine V_bipush 9 dX8_go_256 (by decide) ?_
          refine V_icmp_ge_n (q - fr) 9 281 dX8_go_258 (by decide) (by omega) (by omega) (fun zc10 => ?_) (fun zc10 => ?_)
          · refine V_aload_n dX8_go_281 0 rfl ?_
            refine V_get dX8_go_282 fX8_21 0 rfl rfl ?_
            refine V_aload_n dX8_go_285 0 rfl ?_
            refine V_get dX8_go_286 fX8_24 0 rfl rfl ?_
            refine V_isub dX8_go_289 ?_
            refine V_casti (y := nI (q - fr)) (pk_sub (by omega)) ?_
            refine V_iconst 5 dX8_go_290 (by decide) ?_
            refine V_icmp_ge_n (q - fr) 5 311 dX8_go_291 (by decide) (by omega) (by omega) (fun zc11 => ?_) (fun zc11 => ?_)
            · refine V_aload_n dX8_go_311 0 rfl ?_
              refine V_dup dX8_go_312 rfl ?_
              refine V_get dX8_go_313 fX8_21 0 rfl rfl ?_
              refine V_iconst 1 dX8_go_316 (by decide) ?_
              refine V_iadd dX8_go_317 ?_
              refine V_casti (y := nI (q + 1)) (nI_add q 1) ?_
              refine V_put dX8_go_318 pX8_21 0 rfl rfl rfl rfl (ws' := cM w a th tp sz (q + 1) fr so nu fa pl wd sn gt gs ps X) rfl ?_
              refine V_goto 189 dX8_go_321 (by decide) ?_
              refine V_dropL (L' := [(0, .ref (a 0)), (1, .int (X 1 fr)), (2, .int (bi (isL (X 1 fr)))), (3, .int 1)]) (L'' := [(4, .int ((X 1) q))]) rfl ?_
              exact ih (q + 1) true wd nu (by omega) (by omega) (by omega) (by rw [← hR, rn, if_pos (by grind), show (g && (isL (X 1 q) == isL (X 1 fr))) = true by grind, if_neg (by omega), if_neg (by omega)])
            · refine V_aload_n dX8_go_294 0 rfl ?_
              refine V_bipush 10 dX8_go_295 (by decide) ?_
              refine V_aload_n dX8_go_297 0 rfl ?_
              refine V_get dX8_go_298 fX8_41 0 rfl rfl ?_
              refine V_imul dX8_go_301 ?_
              refine V_iload dX8_go_302 4 rfl ?_
              refine V_iadd dX8_go_304 ?_
              refine V_bipush 48 dX8_go_305 (by decide) ?_
              refine V_isub dX8_go_307 ?_
              refine V_put dX8_go_308 pX8_41 0 rfl rfl rfl rfl (ws' := cM w a th tp sz q fr so (((10 * nu) + ((X 1) q)) - 48) fa pl wd sn gt gs ps X) rfl ?_
              refine V_aload_n dX8_go_311 0 rfl ?_
              refine V_dup dX8_go_312 rfl ?_
              refine V_get dX8_go_313 fX8_21 0 rfl rfl ?_
              refine V_iconst 1 dX8_go_316 (by decide) ?_
              refine V_iadd dX8_go_317 ?_
              refine V_casti (y := nI (q + 1)) (nI_add q 1) ?_
              refine V_put dX8_go_318 pX8_21 0 rfl rfl rfl rfl (ws' := cM w a th tp sz (q + 1) fr so (((10 * nu) + ((X 1) q)) - 48) fa pl wd sn gt gs ps X) rfl ?_
              refine V_goto 189 dX8_go_321 (by decide) ?_
              refine V_dropL (L' := [(0, .ref (a 0)), (1, .int (X 1 fr)), (2, .int (bi (isL (X 1 fr)))), (3, .int 1)]) (L'' := [(4, .int ((X 1) q))]) rfl ?_
              exact ih (q + 1) true wd (((10 * nu) + ((X 1) q)) - 48) (by omega) (by omega) (by omega) (by rw [← hR, rn, if_pos (by grind), show (g && (isL (X 1 q) == isL (X 1 fr))) = true by grind, if_neg (by omega), if_pos (by omega)])
          · refine V_aload_n dX8_go_261 0 rfl ?_
            refine V_ldc2 dX8_go_262 kX8_48 ?_
            refine V_aload_n dX8_go_265 0 rfl ?_
            refine V_get dX8_go_266 fX8_37 0 rfl rfl ?_
            refine V_lmul dX8_go_269 ?_
            refine V_iload dX8_go_270 4 rfl ?_
            refine V_i2l dX8_go_272 ?_
            refine V_ladd dX8_go_273 ?_
            refine V_ldc2 dX8_go_274 kX8_50 ?_
            refine V_lsub dX8_go_277 ?_
            refine V_put dX8_go_278 pX8_37 0 rfl rfl rfl rfl (ws' := cM w a th tp sz q fr so nu fa pl (((27 * wd) + (Int32.toInt64 ((X 1) q))) - 96) sn gt gs ps X) rfl ?_
            refine V_aload_n dX8_go_281 0 rfl ?_
            refine V_get dX8_go_282 fX8_21 0 rfl rfl ?_
            refine V_aload_n dX8_go_285 0 rfl ?_
            refine V_get dX8_go_286 fX8_24 0 rfl rfl ?_
            refine V_isub dX8_go_289 ?_
            refine V_casti (y := nI (q - fr)) (pk_sub (by omega)) ?_
            refine V_iconst 5 dX8_go_290 (by decide) ?_
            refine V_icmp_ge_n (q - fr) 5 311 dX8_go_291 (by decide) (by omega) (by omega) (fun zc12 => ?_) (fun zc12 => ?_)
            · refine V_aload_n dX8_go_311 0 rfl ?_
              refine V_dup dX8_go_312 rfl ?_
              refine V_get dX8_go_313 fX8_21 0 rfl rfl ?_
              refine V_iconst 1 dX8_go_316 (by decide) ?_
              refine V_iadd dX8_go_317 ?_
              refine V_casti (y := nI (q + 1)) (nI_add q 1) ?_
              refine V_put dX8_go_318 pX8_21 0 rfl rfl rfl rfl (ws' := cM w a th tp sz (q + 1) fr so nu fa pl (((27 * wd) + (Int32.toInt64 ((X 1) q))) - 96) sn gt gs ps X) rfl ?_
              refine V_goto 189 dX8_go_321 (by decide) ?_
              refine V_dropL (L' := [(0, .ref (a 0)), (1, .int (X 1 fr)), (2, .int (bi (isL (X 1 fr)))), (3, .int 1)]) (L'' := [(4, .int ((X 1) q))]) rfl ?_
              exact ih (q + 1) true (((27 * wd) + (Int32.toInt64 ((X 1) q))) - 96) nu (by omega) (by omega) (by omega) (by rw [← hR, rn, if_pos (by grind), show (g && (isL (X 1 q) == isL (X 1 fr))) = true by grind, if_pos (by omega), if_neg (by omega)])
            · refine V_aload_n dX8_go_294 0 rfl ?_
              refine V_bipush 10 dX8_go_295 (by decide) ?_
              refine V_aload_n dX8_go_297 0 rfl ?_
              refine V_get dX8_go_298 fX8_41 0 rfl rfl ?_
              refine V_imul dX8_go_301 ?_
              refine V_iload dX8_go_302 4 rfl ?_
              refine V_iadd dX8_go_304 ?_
              refine V_bipush 48 dX8_go_305 (by decide) ?_
              refine V_isub dX8_go_307 ?_
              refine V_put dX8_go_308 pX8_41 0 rfl rfl rfl rfl (ws' := cM w a th tp sz q fr so (((10 * nu) + ((X 1) q)) - 48) fa pl (((27 * wd) + (Int32.toInt64 ((X 1) q))) - 96) sn gt gs ps X) rfl ?_
              refine V_aload_n dX8_go_311 0 rfl ?_
              refine V_dup dX8_go_312 rfl ?_
              refine V_get dX8_go_313 fX8_21 0 rfl rfl ?_
              refine V_iconst 1 dX8_go_316 (by decide) ?_
              refine V_iadd dX8_go_317 ?_
              refine V_casti (y := nI (q + 1)) (nI_add q 1) ?_
              refine V_put dX8_go_318 pX8_21 0 rfl rfl rfl rfl (ws' := cM w a th tp sz (q + 1) fr so (((10 * nu) + ((X 1) q)) - 48) fa pl (((27 * wd) + (Int32.toInt64 ((X 1) q))) - 96) sn gt gs ps X) rfl ?_
              refine V_goto 189 dX8_go_321 (by decide) ?_
              refine V_dropL (L' := [(0, .ref (a 0)), (1, .int (X 1 fr)), (2, .int (bi (isL (X 1 fr)))), (3, .int 1)]) (L'' := [(4, .int ((X 1) q))]) rfl ?_
              exact ih (q + 1) true (((27 * wd) + (Int32.toInt64 ((X 1) q))) - 96) (((10 * nu) + ((X 1) q)) - 48) (by omega) (by omega) (by omega) (by rw [← hR, rn, if_pos (by grind), show (g && (isL (X 1 q) == isL (X 1 fr))) = true by grind, if_pos (by omega), if_pos (by omega)])
    · refine V_aload_n dX8_go_203 0 rfl ?_
      refine V_aload_n dX8_go_204 0 rfl ?_
      refine V_get dX8_go_205 fX8_21 0 rfl rfl ?_
      refine V_selfR dX8_go_208 lX8_44 (c_M_tapeAt w a th tp sz q fr so nu fa pl wd sn gt gs ps X q (by omega) (by omega)) rfl rfl 0 rfl rfl rfl rfl ?_
      refine V_purS dX8_go_211 lX8_34 (c_M_isDigit w (tA (X 1) sz q)) rfl rfl rfl ?_
      refine V_ifeq_b 324 dX8_go_214 (by decide) (fun zc13 => ?_) (fun zc13 => ?_)
      · have he : rn (X 1) sz fr (isL (X 1 fr)) (m + 1) q g wd nu = (q, g, wd, nu) := by rw [rn, if_neg (by grind)]
        have hx := g_324 w a th tp sz fa pl sn gt gs ps X fr so nu0 wd0 hs hf hc h6
        rw [← hR, he] at hx
        exact hx
      · have hqs : q < sz := rn_lt (t := X 1) (by grind)
        refine V_aload_n dX8_go_217 0 rfl ?_
        refine V_get dX8_go_218 fX8_7 0 rfl rfl ?_
        refine V_aload_n dX8_go_221 0 rfl ?_
        refine V_get dX8_go_222 fX8_21 0 rfl rfl ?_
        refine V_iald dX8_go_225 1 rfl rfl q rfl (by omega) ?_
        refine V_istore dX8_go_226 rfl (L' := [(0, .ref (a 0)), (1, .int (X 1 fr)), (2, .int (bi (isL (X 1 fr)))), (3, .int (bi (g))), (4, .int ((X 1) q))]) rfl ?_
        refine V_iload_n dX8_go_228 3 rfl ?_
        refine V_ifeq_b 245 dX8_go_229 (by decide) (fun zc14 => ?_) (fun zc14 => ?_)
        · refine V_iconst 0 dX8_go_245 (by decide) ?_
          refine V_istore_n dX8_go_246 rfl (L' := [(0, .ref (a 0)), (1, .int (X 1 fr)), (2, .int (bi (isL (X 1 fr)))), (3, .int 0), (4, .int ((X 1) q))]) rfl ?_
          refine V_aload_n dX8_go_247 0 rfl ?_
          refine V_get dX8_go_248 fX8_21 0 rfl rfl ?_
          refine V_aload_n dX8_go_251 0 rfl ?_
          refine V_get dX8_go_252 fX8_24 0 rfl rfl ?_
          refine V_isub dX8_go_255 ?_
          refine V_casti (y := nI (q - fr)) (pk_sub (by omega)) ?_
          refine V_bipush 9 dX8_go_256 (by decide) ?_
          refine V_icmp_ge_n (q - fr) 9 281 dX8_go_258 (by decide) (by omega) (by omega) (fun zc15 => ?_) (fun zc15 => ?_)
          · refine V_aload_n dX8_go_281 0 rfl ?_
            refine V_get dX8_go_282 fX8_21 0 rfl rfl ?_
            refine V_aload_n dX8_go_285 0 rfl ?_
            refine V_get dX8_go_286 fX8_24 0 rfl rfl ?_
            refine V_isub dX8_go_289 ?_
            refine V_casti (y := nI (q - fr)) (pk_sub (by omega)) ?_
            refine V_iconst 5 dX8_go_290 (by decide) ?_
            refine V_icmp_ge_n (q - fr) 5 311 dX8_go_291 (by decide) (by omega) (by omega) (fun zc16 => ?_) (fun zc16 => ?_)
            · refine V_aload_n dX8_go_311 0 rfl ?_
              refine V_dup dX8_go_312 rfl ?_
              refine V_get dX8_go_313 fX8_21 0 rfl rfl ?_
              refine V_iconst 1 dX8_go_316 (by decide) ?_
              refine V_iadd dX8_go_317 ?_
              refine V_casti (y := nI (q + 1)) (nI_add q 1) ?_
              refine V_put dX8_go_318 pX8_21 0 rfl rfl rfl rfl (ws' := cM w a th tp sz (q + 1) fr so nu fa pl wd sn gt gs ps X) rfl ?_
              refine V_goto 189 dX8_go_321 (by decide) ?_
              refine V_dropL (L' := [(0, .ref (a 0)), (1, .int (X 1 fr)), (2, .int (bi (isL (X 1 fr)))), (3, .int 0)]) (L'' := [(4, .int ((X 1) q))]) rfl ?_
              exact ih (q + 1) false wd nu (by omega) (by omega) (by omega) (by rw [← hR, rn, if_pos (by grind), show (g && (isL (X 1 q) == isL (X 1 fr))) = false by grind, if_neg (by omega), if_neg (by omega)])
            · refine V_aload_n dX8_go_294 0 rfl ?_
              refine V_bipush 10 dX8_go_295 (by decide) ?_
              refine V_aload_n dX8_go_297 0 rfl ?_
              refine V_get dX8_go_298 fX8_41 0 rfl rfl ?_
              refine V_imul dX8_go_301 ?_
              refine V_iload dX8_go_302 4 rfl ?_
              refine V_iadd dX8_go_304 ?_
              refine V_bipush 48 dX8_go_305 (by decide) ?_
              refine V_isub dX8_go_307 ?_
              refine V_put dX8_go_308 pX8_41 0 rfl rfl rfl rfl (ws' := cM w a th tp sz q fr so (((10 * nu) + ((X 1) q)) - 48) fa pl wd sn gt gs ps X) rfl ?_
              refine V_aload_n dX8_go_311 0 rfl ?_
              refine V_dup dX8_go_312 rfl ?_
              refine V_get dX8_go_313 fX8_21 0 rfl rfl ?_
              refine V_iconst 1 dX8_go_316 (by decide) ?_
              refine V_iadd dX8_go_317 ?_
              refine V_casti (y := nI (q + 1)) (nI_add q 1) ?_
              refine V_put dX8_go_318 pX8_21 0 rfl rfl rfl rfl (ws' := cM w a th tp sz (q + 1) fr so (((10 * nu) + ((X 1) q)) - 48) fa pl wd sn gt gs ps X) rfl ?_
              refine V_goto 189 dX8_go_321 (by decide) ?_
              refine V_dropL (L' := [(0, .ref (a 0)), (1, .int (X 1 fr)), (2, .int (bi (isL (X 1 fr)))), (3, .int 0)]) (L'' := [(4, .int ((X 1) q))]) rfl ?_
              exact ih (q + 1) false wd (((10 * nu) + ((X 1) q)) - 48) (by omega) (by omega) (by omega) (by rw [← hR, rn, if_pos (by grind), show (g && (isL (X 1 q) == isL (X 1 fr))) = false by grind, if_neg (by omega), if_pos (by omega)])
          · refine V_aload_n dX8_go_261 0 rfl ?_
            refine V_ldc2 dX8_go_262 kX8_48 ?_
            refine V_aload_n dX8_go_265 0 rfl ?_
            refine V_get dX8_go_266 fX8_37 0 rfl rfl ?_
            refine V_lmul dX8_go_269 ?_
            refine V_iload dX8_go_270 4 rfl ?_
            refine V_i2l dX8_go_272 ?_
            refine V_ladd dX8_go_273 ?_
            refine V_ldc2 dX8_go_274 kX8_50 ?_
            refine V_lsub dX8_go_277 ?_
            refine V_put dX8_go_278 pX8_37 0 rfl rfl rfl rfl (ws' := cM w a th tp sz q fr so nu fa pl (((27 * wd) + (Int32.toInt64 ((X 1) q))) - 96) sn gt gs ps X) rfl ?_
            refine V_aload_n dX8_go_281 0 rfl ?_
            refine V_get dX8_go_282 fX8_21 0 rfl rfl ?_
            refine V_aload_n dX8_go_285 0 rfl ?_
            refine V_get dX8_go_286 fX8_24 0 rfl rfl ?_
            refine V_isub dX8_go_289 ?_
            refine V_casti (y := nI (q - fr)) (pk_sub (by omega)) ?_
            refine V_iconst 5 dX8_go_290 (by decide) ?_
            refine V_icmp_ge_n (q - fr) 5 311 dX8_go_291 (by decide) (by omega) (by omega) (fun zc17 => ?_) (fun zc17 => ?_)
            · refine V_aload_n dX8_go_311 0 rfl ?_
              refine V_dup dX8_go_312 rfl ?_
              refine V_get dX8_go_313 fX8_21 0 rfl rfl ?_
              refine V_iconst 1 dX8_go_316 (by decide) ?_
              refine V_iadd dX8_go_317 ?_
              refine V_casti (y := nI (q + 1)) (nI_add q 1) ?_
              refine V_put dX8_go_318 pX8_21 0 rfl rfl rfl rfl (ws' := cM w a th tp sz (q + 1) fr so nu fa pl (((27 * wd) + (Int32.toInt64 ((X 1) q))) - 96) sn gt gs ps X) rfl ?_
              refine V_goto 189 dX8_go_321 (by decide) ?_
              refine V_dropL (L' := [(0, .ref (a 0)), (1, .int (X 1 fr)), (2, .int (bi (isL (X 1 fr)))), (3, .int 0)]) (L'' := [(4, .int ((X 1) q))]) rfl ?_
              exact ih (q + 1) false (((27 * wd) + (Int32.toInt64 ((X 1) q))) - 96) nu (by omega) (by omega) (by omega) (by rw [← hR, rn, if_pos (by grind), show (g && (isL (X 1 q) == isL (X 1 fr))) = false by grind, if_pos (by omega), if_neg (by omega)])
            · refine V_aload_n dX8_go_294 0 rfl ?_
              refine V_bipush 10 dX8_go_295 (by decide) ?_
              refine V_aload_n dX8_go_297 0 rfl ?_
              refine V_get dX8_go_298 fX8_41 0 rfl rfl ?_
              refine V_imul dX8_go_301 ?_
              refine V_iload dX8_go_302 4 rfl ?_
              refine V_iadd dX8_go_304 ?_
              refine V_bipush 48 dX8_go_305 (by decide) ?_
              refine V_isub dX8_go_307 ?_
              refine V_put dX8_go_308 pX8_41 0 rfl rfl rfl rfl (ws' := cM w a th tp sz q fr so (((10 * nu) + ((X 1) q)) - 48) fa pl (((27 * wd) + (Int32.toInt64 ((X 1) q))) - 96) sn gt gs ps X) rfl ?_
              refine V_aload_n dX8_go_311 0 rfl ?_
              refine V_dup dX8_go_312 rfl ?_
              refine V_get dX8_go_313 fX8_21 0 rfl rfl ?_
              refine V_iconst 1 dX8_go_316 (by decide) ?_
              refine V_iadd dX8_go_317 ?_
              refine V_casti (y := nI (q + 1)) (nI_add q 1) ?_
              refine V_put dX8_go_318 pX8_21 0 rfl rfl rfl rfl (ws' := cM w a th tp sz (q + 1) fr so (((10 * nu) + ((X 1) q)) - 48) fa pl (((27 * wd) + (Int32.toInt64 ((X 1) q))) - 96) sn gt gs ps X) rfl ?_
              refine V_goto 189 dX8_go_321 (by decide) ?_
              refine V_dropL (L' := [(0, .ref (a 0)), (1, .int (X 1 fr)), (2, .int (bi (isL (X 1 fr)))), (3, .int 0)]) (L'' := [(4, .int ((X 1) q))]) rfl ?_
              exact ih (q + 1) false (((27 * wd) + (Int32.toInt64 ((X 1) q))) - 96) (((10 * nu) + ((X 1) q)) - 48) (by omega) (by omega) (by omega) (by rw [← hR, rn, if_pos (by grind), show (g && (isL (X 1 q) == isL (X 1 fr))) = false by grind, if_pos (by omega), if_pos (by omega)])
        · refine V_iload dX8_go_232 4 rfl ?_
          refine V_purS dX8_go_234 lX8_30 (c_M_isLetter w ((X 1) q)) rfl rfl rfl ?_
          refine V_iload_n dX8_go_237 2 rfl ?_
          refine V_icmp_ne_bb 245 dX8_go_238 (by decide) (fun zc18 => ?_) (fun zc18 => ?_)
          · refine V_iconst 0 dX8_go_245 (by decide) ?_
            refine V_istore_n dX8_go_246 rfl (L' := [(0, .ref (a 0)), (1, .int (X 1 fr)), (2, .int (bi (isL (X 1 fr)))), (3, .int 0), (4, .int ((X 1) q))]) rfl ?_
            refine V_aload_n dX8_go_247 0 rfl ?_
            refine V_get dX8_go_248 fX8_21 0 rfl rfl ?_
            refine V_aload_n dX8_go_251 0 rfl ?_
            refine V_get dX8_go_252 fX8_24 0 rfl rfl ?_
            refine V_isub dX8_go_255 ?_
            refine V_casti (y := nI (q - fr)) (pk_sub (by omega)) ?_
            refine V_bipush 9 dX8_go_256 (by decide) ?_
            refine V_icmp_ge_n (q - fr) 9 281 dX8_go_258 (by decide) (by omega) (by omega) (fun zc19 => ?_) (fun zc19 => ?_)
            · refine V_aload_n dX8_go_281 0 rfl ?_
              refine V_get dX8_go_282 fX8_21 0 rfl rfl ?_
              refine V_aload_n dX8_go_285 0 rfl ?_
              refine V_get dX8_go_286 fX8_24 0 rfl rfl ?_
              refine V_isub dX8_go_289 ?_
              refine V_casti (y := nI (q - fr)) (pk_sub (by omega)) ?_
              refine V_iconst 5 dX8_go_290 (by decide) ?_
              refine V_icmp_ge_n (q - fr) 5 311 dX8_go_291 (by decide) (by omega) (by omega) (fun zc20 => ?_) (fun zc20 => ?_)
              · refine V_aload_n dX8_go_311 0 rfl ?_
                refine V_dup dX8_go_312 rfl ?_
                refine V_get dX8_go_313 fX8_21 0 rfl rfl ?_
                refine V_iconst 1 dX8_go_316 (by decide) ?_
                refine V_iadd dX8_go_317 ?_
                refine V_casti (y := nI (q + 1)) (nI_add q 1) ?_
                refine V_put dX8_go_318 pX8_21 0 rfl rfl rfl rfl (ws' := cM w a th tp sz (q + 1) fr so nu fa pl wd sn gt gs ps X) rfl ?_
                refine V_goto 189 dX8_go_321 (by decide) ?_
                refine V_dropL (L' := [(0, .ref (a 0)), (1, .int (X 1 fr)), (2, .int (bi (isL (X 1 fr)))), (3, .int 0)]) (L'' := [(4, .int ((X 1) q))]) rfl ?_
                exact ih (q + 1) false wd nu (by omega) (by omega) (by omega) (by rw [← hR, rn, if_pos (by grind), show (g && (isL (X 1 q) == isL (X 1 fr))) = false by grind, if_neg (by omega), if_neg (by omega)])
              · refine V_aload_n dX8_go_294 0 rfl ?_
                refine V_bipush 10 dX8_go_295 (by decide) ?_
                refine V_aload_n dX8_go_297 0 rfl ?_
                refine V_get dX8_go_298 fX8_41 0 rfl rfl ?_
                refine V_imul dX8_go_301 ?_
                refine V_iload dX8_go_302 4 rfl ?_
                refine V_iadd dX8_go_304 ?_
                refine V_bipush 48 dX8_go_305 (by decide) ?_
                refine V_isub dX8_go_307 ?_
                refine V_put dX8_go_308 pX8_41 0 rfl rfl rfl rfl (ws' := cM w a th tp sz q fr so (((10 * nu) + ((X 1) q)) - 48) fa pl wd sn gt gs ps X) rfl ?_
                refine V_aload_n dX8_go_311 0 rfl ?_
                refine V_dup dX8_go_312 rfl ?_
                refine V_get dX8_go_313 fX8_21 0 rfl rfl ?_
                refine V_iconst 1 dX8_go_316 (by decide) ?_
                refine V_iadd dX8_go_317 ?_
                refine V_casti (y := nI (q + 1)) (nI_add q 1) ?_
                refine V_put dX8_go_318 pX8_21 0 rfl rfl rfl rfl (ws' := cM w a th tp sz (q + 1) fr so (((10 * nu) + ((X 1) q)) - 48) fa pl wd sn gt gs ps X) rfl ?_
                refine V_goto 189 dX8_go_321 (by decide) ?_
                refine V_dropL (L' := [(0, .ref (a 0)), (1, .int (X 1 fr)), (2, .int (bi (isL (X 1 fr)))), (3, .int 0)]) (L'' := [(4, .int ((X 1) q))]) rfl ?_
                exact ih (q + 1) false wd (((10 * nu) + ((X 1) q)) - 48) (by omega) (by omega) (by omega) (by rw [← hR, rn, if_pos (by grind), show (g && (isL (X 1 q) == isL (X 1 fr))) = false by grind, if_neg (by omega), if_pos (by omega)])
            · refine V_aload_n dX8_go_261 0 rfl ?_
              refine V_ldc2 dX8_go_262 kX8_48 ?_
              refine V_aload_n dX8_go_265 0 rfl ?_
              refine V_get dX8_go_266 fX8_37 0 rfl rfl ?_
              refine V_lmul dX8_go_269 ?_
              refine V_iload dX8_go_270 4 rfl ?_
              refine V_i2l dX8_go_272 ?_
              refine V_ladd dX8_go_273 ?_
              refine V_ldc2 dX8_go_274 kX8_50 ?_
              refine V_lsub dX8_go_277 ?_
              refine V_put dX8_go_278 pX8_37 0 rfl rfl rfl rfl (ws' := cM w a th tp sz q fr so nu fa pl (((27 * wd) + (Int32.toInt64 ((X 1) q))) - 96) sn gt gs ps X) rfl ?_
              refine V_aload_n dX8_go_281 0 rfl ?_
              refine V_get dX8_go_282 fX8_21 0 rfl rfl ?_
              refine V_aload_n dX8_go_285 0 rfl ?_
              refine V_get dX8_go_286 fX8_24 0 rfl rfl ?_
              refine V_isub dX8_go_289 ?_
              refine V_casti (y := nI (q - fr)) (pk_sub (by omega)) ?_
              refine V_iconst 5 dX8_go_290 (by decide) ?_
              refine V_icmp_ge_n (q - fr) 5 311 dX8_go_291 (by decide) (by omega) (by omega) (fun zc21 => ?_) (fun zc21 => ?_)
              · refine V_aload_n dX8_go_311 0 rfl ?_
                refine V_dup dX8_go_312 rfl ?_
                refine V_get dX8_go_313 fX8_21 0 rfl rfl ?_
                refine V_iconst 1 dX8_go_316 (by decide) ?_
                refine V_iadd dX8_go_317 ?_
                refine V_casti (y := nI (q + 1)) (nI_add q 1) ?_
                refine V_put dX8_go_318 pX8_21 0 rfl rfl rfl rfl (ws' := cM w a th tp sz (q + 1) fr so nu fa pl (((27 * wd) + (Int32.toInt64 ((X 1) q))) - 96) sn gt gs ps X) rfl ?_
                refine V_goto 189 dX8_go_321 (by decide) ?_
                refine V_dropL (L' := [(0, .ref (a 0)), (1, .int (X 1 fr)), (2, .int (bi (isL (X 1 fr)))), (3, .int 0)]) (L'' := [(4, .int ((X 1) q))]) rfl ?_
                exact ih (q + 1) false (((27 * wd) + (Int32.toInt64 ((X 1) q))) - 96) nu (by omega) (by omega) (by omega) (by rw [← hR, rn, if_pos (by grind), show (g && (isL (X 1 q) == isL (X 1 fr))) = false by grind, if_pos (by omega), if_neg (by omega)])
              · refine V_aload_n dX8_go_294 0 rfl ?_
                refine V_bipush 10 dX8_go_295 (by decide) ?_
                refine V_aload_n dX8_go_297 0 rfl ?_
                refine V_get dX8_go_298 fX8_41 0 rfl rfl ?_
                refine V_imul dX8_go_301 ?_
                refine V_iload dX8_go_302 4 rfl ?_
                refine V_iadd dX8_go_304 ?_
                refine V_bipush 48 dX8_go_305 (by decide) ?_
                refine V_isub dX8_go_307 ?_
                refine V_put dX8_go_308 pX8_41 0 rfl rfl rfl rfl (ws' := cM w a th tp sz q fr so (((10 * nu) + ((X 1) q)) - 48) fa pl (((27 * wd) + (Int32.toInt64 ((X 1) q))) - 96) sn gt gs ps X) rfl ?_
                refine V_aload_n dX8_go_311 0 rfl ?_
                refine V_dup dX8_go_312 rfl ?_
                refine V_get dX8_go_313 fX8_21 0 rfl rfl ?_
                refine V_iconst 1 dX8_go_316 (by decide) ?_
                refine V_iadd dX8_go_317 ?_
                refine V_casti (y := nI (q + 1)) (nI_add q 1) ?_
                refine V_put dX8_go_318 pX8_21 0 rfl rfl rfl rfl (ws' := cM w a th tp sz (q + 1) fr so (((10 * nu) + ((X 1) q)) - 48) fa pl (((27 * wd) + (Int32.toInt64 ((X 1) q))) - 96) sn gt gs ps X) rfl ?_
                refine V_goto 189 dX8_go_321 (by decide) ?_
                refine V_dropL (L' := [(0, .ref (a 0)), (1, .int (X 1 fr)), (2, .int (bi (isL (X 1 fr)))), (3, .int 0)]) (L'' := [(4, .int ((X 1) q))]) rfl ?_
                exact ih (q + 1) false (((27 * wd) + (Int32.toInt64 ((X 1) q))) - 96) (((10 * nu) + ((X 1) q)) - 48) (by omega) (by omega) (by omega) (by rw [← hR, rn, if_pos (by grind), show (g && (isL (X 1 q) == isL (X 1 fr))) = false by grind, if_pos (by omega), if_pos (by omega)])
          · refine V_iconst 1 dX8_go_241 (by decide) ?_
            refine V_goto 246 dX8_go_242 (by decide) ?_
            refine V_istore_n dX8_go_246 rfl (L' := [(0, .ref (a 0)), (1, .int (X 1 fr)), (2, .int (bi (isL (X 1 fr)))), (3, .int 1), (4, .int ((X 1) q))]) rfl ?_
            refine V_aload_n dX8_go_247 0 rfl ?_
            refine V_get dX8_go_248 fX8_21 0 rfl rfl ?_
            refine V_aload_n dX8_go_251 0 rfl ?_
            refine V_get dX8_go_252 fX8_24 0 rfl rfl ?_
            refine V_isub dX8_go_255 ?_
            refine V_casti (y := nI (q - fr)) (pk_sub (by omega)) ?_
            refine V_bipush 9 dX8_go_256 (by decide) ?_
            refine V_icmp_ge_n (q - fr) 9 281 dX8_go_258 (by decide) (by omega) (by omega) (fun zc22 => ?_) (fun zc22 => ?_)
            · refine V_aload_n dX8_go_281 0 rfl ?_
              refine V_get dX8_go_282 fX8_21 0 rfl rfl ?_
              refine V_aload_n dX8_go_285 0 rfl ?_
              refine V_get dX8_go_286 fX8_24 0 rfl rfl ?_
              refine V_isub dX8_go_289 ?_
              refine V_casti (y := nI (q - fr)) (pk_sub (by omega)) ?_
              refine V_iconst 5 dX8_go_290 (by decide) ?_
              refine V_icmp_ge_n (q - fr) 5 311 dX8_go_291 (by decide) (by omega) (by omega) (fun zc23 => ?_) (fun zc23 => ?_)
              · refine V_aload_n dX8_go_311 0 rfl ?_
                refine V_dup dX8_go_312 rfl ?_
                refine V_get dX8_go_313 fX8_21 0 rfl rfl ?_
                refine V_iconst 1 dX8_go_316 (by decide) ?_
                refine V_iadd dX8_go_317 ?_
                refine V_casti (y := nI (q + 1)) (nI_add q 1) ?_
                refine V_put dX8_go_318 pX8_21 0 rfl rfl rfl rfl (ws' := cM w a th tp sz (q + 1) fr so nu fa pl wd sn gt gs ps X) rfl ?_
                refine V_goto 189 dX8_go_321 (by decide) ?_
                refine V_dropL (L' := [(0, .ref (a 0)), (1, .int (X 1 fr)), (2, .int (bi (isL (X 1 fr)))), (3, .int 1)]) (L'' := [(4, .int ((X 1) q))]) rfl ?_
                exact ih (q + 1) true wd nu (by omega) (by omega) (by omega) (by rw [← hR, rn, if_pos (by grind), show (g && (isL (X 1 q) == isL (X 1 fr))) = true by grind, if_neg (by omega), if_neg (by omega)])
              · refine V_aload_n dX8_go_294 0 rfl ?_
                refine V_bipush 10 dX8_go_295 (by decide) ?_
                refine V_aload_n dX8_go_297 0 rfl ?_
                refine V_get dX8_go_298 fX8_41 0 rfl rfl ?_
                refine V_imul dX8_go_301 ?_
                refine V_iload dX8_go_302 4 rfl ?_
                refine V_iadd dX8_go_304 ?_
                refine V_bipush 48 dX8_go_305 (by decide) ?_
                refine V_isub dX8_go_307 ?_
                refine V_put dX8_go_308 pX8_41 0 rfl rfl rfl rfl (ws' := cM w a th tp sz q fr so (((10 * nu) + ((X 1) q)) - 48) fa pl wd sn gt gs ps X) rfl ?_
                refine V_aload_n dX8_go_311 0 rfl ?_
                refine V_dup dX8_go_312 rfl ?_
                refine V_get dX8_go_313 fX8_21 0 rfl rfl ?_
                refine V_iconst 1 dX8_go_316 (by decide) ?_
                refine V_iadd dX8_go_317 ?_
                refine V_casti (y := nI (q + 1)) (nI_add q 1) ?_
                refine V_put dX8_go_318 pX8_21 0 rfl rfl rfl rfl (ws' := cM w a th tp sz (q + 1) fr so (((10 * nu) + ((X 1) q)) - 48) fa pl wd sn gt gs ps X) rfl ?_
                refine V_goto 189 dX8_go_321 (by decide) ?_
                refine V_dropL (L' := [(0, .ref (a 0)), (1, .int (X 1 fr)), (2, .int (bi (isL (X 1 fr)))), (3, .int 1)]) (L'' := [(4, .int ((X 1) q))]) rfl ?_
                exact ih (q + 1) true wd (((10 * nu) + ((X 1) q)) - 48) (by omega) (by omega) (by omega) (by rw [← hR, rn, if_pos (by grind), show (g && (isL (X 1 q) == isL (X 1 fr))) = true by grind, if_neg (by omega), if_pos (by omega)])
            · refine V_aload_n dX8_go_261 0 rfl ?_
              refine V_ldc2 dX8_go_262 kX8_48 ?_
              refine V_aload_n dX8_go_265 0 rfl ?_
              refine V_get dX8_go_266 fX8_37 0 rfl rfl ?_
              refine V_lmul dX8_go_269 ?_
              refine V_iload dX8_go_270 4 rfl ?_
              refine V_i2l dX8_go_272 ?_
              refine V_ladd dX8_go_273 ?_
              refine V_ldc2 dX8_go_274 kX8_50 ?_
              refine V_lsub dX8_go_277 ?_
              refine V_put dX8_go_278 pX8_37 0 rfl rfl rfl rfl (ws' := cM w a th tp sz q fr so nu fa pl (((27 * wd) + (Int32.toInt64 ((X 1) q))) - 96) sn gt gs ps X) rfl ?_
              refine V_aload_n dX8_go_281 0 rfl ?_
              refine V_get dX8_go_282 fX8_21 0 rfl rfl ?_
              refine V_aload_n dX8_go_285 0 rfl ?_
              refine V_get dX8_go_286 fX8_24 0 rfl rfl ?_
              refine V_isub dX8_go_289 ?_
              refine V_casti (y := nI (q - fr)) (pk_sub (by omega)) ?_
              refine V_iconst 5 dX8_go_290 (by decide) ?_
              refine V_icmp_ge_n (q - fr) 5 311 dX8_go_291 (by decide) (by omega) (by omega) (fun zc24 => ?_) (fun zc24 => ?_)
              · refine V_aload_n dX8_go_311 0 rfl ?_
                refine V_dup dX8_go_312 rfl ?_
                refine V_get dX8_go_313 fX8_21 0 rfl rfl ?_
                refine V_iconst 1 dX8_go_316 (by decide) ?_
                refine V_iadd dX8_go_317 ?_
                refine V_casti (y := nI (q + 1)) (nI_add q 1) ?_
                refine V_put dX8_go_318 pX8_21 0 rfl rfl rfl rfl (ws' := cM w a th tp sz (q + 1) fr so nu fa pl (((27 * wd) + (Int32.toInt64 ((X 1) q))) - 96) sn gt gs ps X) rfl ?_
                refine V_goto 189 dX8_go_321 (by decide) ?_
                refine V_dropL (L' := [(0, .ref (a 0)), (1, .int (X 1 fr)), (2, .int (bi (isL (X 1 fr)))), (3, .int 1)]) (L'' := [(4, .int ((X 1) q))]) rfl ?_
                exact ih (q + 1) true (((27 * wd) + (Int32.toInt64 ((X 1) q))) - 96) nu (by omega) (by omega) (by omega) (by rw [← hR, rn, if_pos (by grind), show (g && (isL (X 1 q) == isL (X 1 fr))) = true by grind, if_pos (by omega), if_neg (by omega)])
              · refine V_aload_n dX8_go_294 0 rfl ?_
                refine V_bipush 10 dX8_go_295 (by decide) ?_
                refine V_aload_n dX8_go_297 0 rfl ?_
                refine V_get dX8_go_298 fX8_41 0 rfl rfl ?_
                refine V_imul dX8_go_301 ?_
                refine V_iload dX8_go_302 4 rfl ?_
                refine V_iadd dX8_go_304 ?_
                refine V_bipush 48 dX8_go_305 (by decide) ?_
                refine V_isub dX8_go_307 ?_
                refine V_put dX8_go_308 pX8_41 0 rfl rfl rfl rfl (ws' := cM w a th tp sz q fr so (((10 * nu) + ((X 1) q)) - 48) fa pl (((27 * wd) + (Int32.toInt64 ((X 1) q))) - 96) sn gt gs ps X) rfl ?_
                refine V_aload_n dX8_go_311 0 rfl ?_
                refine V_dup dX8_go_312 rfl ?_
                refine V_get dX8_go_313 fX8_21 0 rfl rfl ?_
                refine V_iconst 1 dX8_go_316 (by decide) ?_
                refine V_iadd dX8_go_317 ?_
                refine V_casti (y := nI (q + 1)) (nI_add q 1) ?_
                refine V_put dX8_go_318 pX8_21 0 rfl rfl rfl rfl (ws' := cM w a th tp sz (q + 1) fr so (((10 * nu) + ((X 1) q)) - 48) fa pl (((27 * wd) + (Int32.toInt64 ((X 1) q))) - 96) sn gt gs ps X) rfl ?_
                refine V_goto 189 dX8_go_321 (by decide) ?_
                refine V_dropL (L' := [(0, .ref (a 0)), (1, .int (X 1 fr)), (2, .int (bi (isL (X 1 fr)))), (3, .int 1)]) (L'' := [(4, .int ((X 1) q))]) rfl ?_
                exact ih (q + 1) true (((27 * wd) + (Int32.toInt64 ((X 1) q))) - 96) (((10 * nu) + ((X 1) q)) - 48) (by omega) (by omega) (by omega) (by rw [← hR, rn, if_pos (by grind), show (g && (isL (X 1 q) == isL (X 1 fr))) = true by grind, if_pos (by omega), if_pos (by omega)])

set_option maxRecDepth 100000 in
set_option maxHeartbeats 4000000 in
theorem g_52 (w : vWd) (a : Nat → Nat) (th : Int32) (tp sz : Nat) (fa pl sn : Nat) (gt : Int32) (gs ps : Nat) (X : Nat → Nat → Int32) (q fr so : Nat) (nu : Int32) (wd : Int64) (hs : sz ≤ 640) (hq : q ≤ sz) : V w mX8_go (vc w 1 0 0 (qE none (cM w a th tp sz (goS (X 1) sz q nu wd).1 (goS (X 1) sz q nu wd).2.1 (goS (X 1) sz q nu wd).2.2.1 (goS (X 1) sz q nu wd).2.2.2.1 fa pl (goS (X 1) sz q nu wd).2.2.2.2 sn gt gs ps X))) 0 0 52 [(0, .ref (a 0))] [] (cM w a th tp sz q fr so nu fa pl wd sn gt gs ps X) := by
  refine V_aload_n dX8_go_52 0 rfl ?_
  refine V_aload_n dX8_go_53 0 rfl ?_
  refine V_get dX8_go_54 fX8_21 0 rfl rfl ?_
  refine V_put dX8_go_57 pX8_24 0 rfl rfl rfl rfl (ws' := cM w a th tp sz q q so nu fa pl wd sn gt gs ps X) rfl ?_
  refine V_aload_n dX8_go_60 0 rfl ?_
  refine V_get dX8_go_61 fX8_18 0 rfl rfl ?_
  refine V_sipush 600 dX8_go_64 (by decide) ?_
  refine V_icmp_le_n sz 600 93 dX8_go_67 (by decide) (by omega) (by omega) (fun zc1 => ?_) (fun zc1 => ?_)
  · refine V_aload_n dX8_go_93 0 rfl ?_
    refine V_get dX8_go_94 fX8_21 0 rfl rfl ?_
    refine V_aload_n dX8_go_97 0 rfl ?_
    refine V_get dX8_go_98 fX8_18 0 rfl rfl ?_
    refine V_icmp_lt_n q sz 110 dX8_go_101 (by decide) (by omega) (by omega) (fun zc2 => ?_) (fun zc2 => ?_)
    · refine V_aload_n dX8_go_110 0 rfl ?_
      refine V_get dX8_go_111 fX8_7 0 rfl rfl ?_
      refine V_aload_n dX8_go_114 0 rfl ?_
      refine V_get dX8_go_115 fX8_21 0 rfl rfl ?_
      refine V_iald dX8_go_118 1 rfl rfl q rfl (by omega) ?_
      refine V_istore_n dX8_go_119 rfl (L' := [(0, .ref (a 0)), (1, .int ((X 1) q))]) rfl ?_
      refine V_iload_n dX8_go_120 1 rfl ?_
      refine V_purS dX8_go_121 lX8_30 (c_M_isLetter w ((X 1) q)) rfl rfl rfl ?_
      refine V_ifne_b 172 dX8_go_124 (by decide) (fun zc3 => ?_) (fun zc3 => ?_)
      · refine V_iload_n dX8_go_172 1 rfl ?_
        refine V_purS dX8_go_173 lX8_30 (c_M_isLetter w ((X 1) q)) rfl rfl rfl ?_
        refine V_istore_n dX8_go_176 rfl (L' := [(0, .ref (a 0)), (1, .int ((X 1) q)), (2, .int (bi (isL ((X 1) q))))]) rfl ?_
        refine V_iconst 1 dX8_go_177 (by decide) ?_
        refine V_istore_n dX8_go_178 rfl (L' := [(0, .ref (a 0)), (1, .int ((X 1) q)), (2, .int (bi (isL ((X 1) q)))), (3, .int 1)]) rfl ?_
        refine V_aload_n dX8_go_179 0 rfl ?_
        refine V_lconst 0 dX8_go_180 (by decide) ?_
        refine V_put dX8_go_181 pX8_37 0 rfl rfl rfl rfl (ws' := cM w a th tp sz q q so nu fa pl 0 sn gt gs ps X) rfl ?_
        refine V_aload_n dX8_go_184 0 rfl ?_
        refine V_iconst 0 dX8_go_185 (by decide) ?_
        refine V_put dX8_go_186 pX8_41 0 rfl rfl rfl rfl (ws' := cM w a th tp sz q q so 0 fa pl 0 sn gt gs ps X) rfl ?_
        exact lp_M_go2 w a th tp sz fa pl sn gt gs ps X q so nu wd hs (by omega) (by grind) (by omega) (sz + 1 - q) q true 0 0 (by omega) (by omega) (by omega) rfl
      · refine V_iload_n dX8_go_127 1 rfl ?_
        refine V_purS dX8_go_128 lX8_34 (c_M_isDigit w ((X 1) q)) rfl rfl rfl ?_
        refine V_ifne_b 172 dX8_go_131 (by decide) (fun zc4 => ?_) (fun zc4 => ?_)
        · refine V_iload_n dX8_go_172 1 rfl ?_
          refine V_purS dX8_go_173 lX8_30 (c_M_isLetter w ((X 1) q)) rfl rfl rfl ?_
          refine V_istore_n dX8_go_176 rfl (L' := [(0, .ref (a 0)), (1, .int ((X 1) q)), (2, .int (bi (isL ((X 1) q))))]) rfl ?_
          refine V_iconst 1 dX8_go_177 (by decide) ?_
          refine V_istore_n dX8_go_178 rfl (L' := [(0, .ref (a 0)), (1, .int ((X 1) q)), (2, .int (bi (isL ((X 1) q)))), (3, .int 1)]) rfl ?_
          refine V_aload_n dX8_go_179 0 rfl ?_
          refine V_lconst 0 dX8_go_180 (by decide) ?_
          refine V_put dX8_go_181 pX8_37 0 rfl rfl rfl rfl (ws' := cM w a th tp sz q q so nu fa pl 0 sn gt gs ps X) rfl ?_
          refine V_aload_n dX8_go_184 0 rfl ?_
          refine V_iconst 0 dX8_go_185 (by decide) ?_
          refine V_put dX8_go_186 pX8_41 0 rfl rfl rfl rfl (ws' := cM w a th tp sz q q so 0 fa pl 0 sn gt gs ps X) rfl ?_
          exact lp_M_go2 w a th tp sz fa pl sn gt gs ps X q so nu wd hs (by omega) (by grind) (by omega) (sz + 1 - q) q true 0 0 (by omega) (by omega) (by omega) rfl
        · refine V_aload_n dX8_go_134 0 rfl ?_
          refine V_iload_n dX8_go_135 1 rfl ?_
          refine V_bipush 59 dX8_go_136 (by decide) ?_
          refine V_icmp_eq 147 dX8_go_138 (by decide) (fun zc5 => ?_) (fun zc5 => ?_)
          · refine V_iconst 4 dX8_go_147 (by decide) ?_
            refine V_goto 152 dX8_go_148 (by decide) ?_
            refine V_put dX8_go_152 pX8_27 0 rfl rfl rfl rfl (ws' := cM w a th tp sz q q 4 nu fa pl wd sn gt gs ps X) rfl ?_
            refine V_aload_n dX8_go_155 0 rfl ?_
            refine V_iload_n dX8_go_156 1 rfl ?_
            refine V_i2l dX8_go_157 ?_
            refine V_put dX8_go_158 pX8_37 0 rfl rfl rfl rfl (ws' := cM w a th tp sz q q 4 nu fa pl (Int32.toInt64 ((X 1) q)) sn gt gs ps X) rfl ?_
            refine V_aload_n dX8_go_161 0 rfl ?_
            refine V_dup dX8_go_162 rfl ?_
            refine V_get dX8_go_163 fX8_21 0 rfl rfl ?_
            refine V_iconst 1 dX8_go_166 (by decide) ?_
            refine V_iadd dX8_go_167 ?_
            refine V_casti (y := nI (q + 1)) (nI_add q 1) ?_
            refine V_put dX8_go_168 pX8_21 0 rfl rfl rfl rfl (ws' := cM w a th tp sz (q + 1) q 4 nu fa pl (Int32.toInt64 ((X 1) q)) sn gt gs ps X) rfl ?_
            exact V_vret dX8_go_171 rfl (nb rfl) (nb rfl) ⟨rfl, by rw [show goS (X 1) sz q nu wd = (q + 1, q, 4, nu, Int32.toInt64 ((X 1) q)) by grind [goS]]⟩
          · refine V_iload_n dX8_go_141 1 rfl ?_
            refine V_bipush 45 dX8_go_142 (by decide) ?_
            refine V_icmp_ne 151 dX8_go_144 (by decide) (fun zc6 => ?_) (fun zc6 => ?_)
            · refine V_iconst 1 dX8_go_151 (by decide) ?_
              refine V_put dX8_go_152 pX8_27 0 rfl rfl rfl rfl (ws' := cM w a th tp sz q q 1 nu fa pl wd sn gt gs ps X) rfl ?_
              refine V_aload_n dX8_go_155 0 rfl ?_
              refine V_iload_n dX8_go_156 1 rfl ?_
              refine V_i2l dX8_go_157 ?_
              refine V_put dX8_go_158 pX8_37 0 rfl rfl rfl rfl (ws' := cM w a th tp sz q q 1 nu fa pl (Int32.toInt64 ((X 1) q)) sn gt gs ps X) rfl ?_
              refine V_aload_n dX8_go_161 0 rfl ?_
              refine V_dup dX8_go_162 rfl ?_
              refine V_get dX8_go_163 fX8_21 0 rfl rfl ?_
              refine V_iconst 1 dX8_go_166 (by decide) ?_
              refine V_iadd dX8_go_167 ?_
              refine V_casti (y := nI (q + 1)) (nI_add q 1) ?_
              refine V_put dX8_go_168 pX8_21 0 rfl rfl rfl rfl (ws' := cM w a th tp sz (q + 1) q 1 nu fa pl (Int32.toInt64 ((X 1) q)) sn gt gs ps X) rfl ?_
              exact V_vret dX8_go_171 rfl (nb rfl) (nb rfl) ⟨rfl, by rw [show goS (X 1) sz q nu wd = (q + 1, q, 1, nu, Int32.toInt64 ((X 1) q)) by grind [goS]]⟩
            · refine V_iconst 4 dX8_go_147 (by decide) ?_
              refine V_goto 152 dX8_go_148 (by decide) ?_
              refine V_put dX8_go_152 pX8_27 0 rfl rfl rfl rfl (ws' := cM w a th tp sz q q 4 nu fa pl wd sn gt gs ps X) rfl ?_
              refine V_aload_n dX8_go_155 0 rfl ?_
              refine V_iload_n dX8_go_156 1 rfl ?_
              refine V_i2l dX8_go_157 ?_
              refine V_put dX8_go_158 pX8_37 0 rfl rfl rfl rfl (ws' := cM w a th tp sz q q 4 nu fa pl (Int32.toInt64 ((X 1) q)) sn gt gs ps X) rfl ?_
              refine V_aload_n dX8_go_161 0 rfl ?_
              refine V_dup dX8_go_162 rfl ?_
              refine V_get dX8_go_163 fX8_21 0 rfl rfl ?_
              refine V_iconst 1 dX8_go_166 (by decide) ?_
              refine V_iadd dX8_go_167 ?_
              refine V_casti (y := nI (q + 1)) (nI_add q 1) ?_
              refine V_put dX8_go_168 pX8_21 0 rfl rfl rfl rfl (ws' := cM w a th tp sz (q + 1) q 4 nu fa pl (Int32.toInt64 ((X 1) q)) sn gt gs ps X) rfl ?_
              exact V_vret dX8_go_171 rfl (nb rfl) (nb rfl) ⟨rfl, by rw [show goS (X 1) sz q nu wd = (q + 1, q, 4, nu, Int32.toInt64 ((X 1) q)) by grind [goS]]⟩
    · refine V_aload_n dX8_go_104 0 rfl ?_
      refine V_iconst 0 dX8_go_105 (by decide) ?_
      refine V_put dX8_go_106 pX8_27 0 rfl rfl rfl rfl (ws' := cM w a th tp sz q q 0 nu fa pl wd sn gt gs ps X) rfl ?_
      exact V_vret dX8_go_109 rfl (nb rfl) (nb rfl) ⟨rfl, by rw [show goS (X 1) sz q nu wd = (q, q, 0, nu, wd) by grind [goS]]⟩
  · refine V_aload_n dX8_go_70 0 rfl ?_
    refine V_get dX8_go_71 fX8_24 0 rfl rfl ?_
    refine V_sipush 600 dX8_go_74 (by decide) ?_
    refine V_icmp_lt_n q 600 93 dX8_go_77 (by decide) (by omega) (by omega) (fun zc7 => ?_) (fun zc7 => ?_)
    · refine V_aload_n dX8_go_93 0 rfl ?_
      refine V_get dX8_go_94 fX8_21 0 rfl rfl ?_
      refine V_aload_n dX8_go_97 0 rfl ?_
      refine V_get dX8_go_98 fX8_18 0 rfl rfl ?_
      refine V_icmp_lt_n q sz 110 dX8_go_101 (by decide) (by omega) (by omega) (fun zc8 => ?_) (fun zc8 => ?_)
      · refine V_aload_n dX8_go_110 0 rfl ?_
        refine V_get dX8_go_111 fX8_7 0 rfl rfl ?_
        refine V_aload_n dX8_go_114 0 rfl ?_
        refine V_get dX8_go_115 fX8_21 0 rfl rfl ?_
        refine V_iald dX8_go_118 1 rfl rfl q rfl (by omega) ?_
        refine V_istore_n dX8_go_119 rfl (L' := [(0, .ref (a 0)), (1, .int ((X 1) q))]) rfl ?_
        refine V_iload_n dX8_go_120 1 rfl ?_
        refine V_purS dX8_go_121 lX8_30 (c_M_isLetter w ((X 1) q)) rfl rfl rfl ?_
        refine V_ifne_b 172 dX8_go_124 (by decide) (fun zc9 => ?_) (fun zc9 => ?_)
        · refine V_iload_n dX8_go_172 1 rfl ?_
          refine V_purS dX8_go_173 lX8_30 (c_M_isLetter w ((X 1) q)) rfl rfl rfl ?_
          refine V_istore_n dX8_go_176 rfl (L' := [(0, .ref (a 0)), (1, .int ((X 1) q)), (2, .int (bi (isL ((X 1) q))))]) rfl ?_
          refine V_iconst 1 dX8_go_177 (by decide) ?_
          refine V_istore_n dX8_go_178 rfl (L' := [(0, .ref (a 0)), (1, .int ((X 1) q)), (2, .int (bi (isL ((X 1) q)))), (3, .int 1)]) rfl ?_
          refine V_aload_n dX8_go_179 0 rfl ?_
          refine V_lconst 0 dX8_go_180 (by decide) ?_
          refine V_put dX8_go_181 pX8_37 0 rfl rfl rfl rfl (ws' := cM w a th tp sz q q so nu fa pl 0 sn gt gs ps X) rfl ?_
          refine V_aload_n dX8_go_184 0 rfl ?_
          refine V_iconst 0 dX8_go_185 (by decide) ?_
          refine V_put dX8_go_186 pX8_41 0 rfl rfl rfl rfl (ws' := cM w a th tp sz q q so 0 fa pl 0 sn gt gs ps X) rfl ?_
          exact lp_M_go2 w a th tp sz fa pl sn gt gs ps X q so nu wd hs (by omega) (by grind) (by omega) (sz + 1 - q) q true 0 0 (by omega) (by omega) (by omega) rfl
        · refine V_iload_n dX8_go_127 1 rfl ?_
          refine V_purS dX8_go_128 lX8_34 (c_M_isDigit w ((X 1) q)) rfl rfl rfl ?_
          refine V_ifne_b 172 dX8_go_131 (by decide) (fun zc10 => ?_) (fun zc10 => ?_)
          · refine V_iload_n dX8_go_172 1 rfl ?_
            refine V_purS dX8_go_173 lX8_30 (c_M_isLetter w ((X 1) q)) rfl rfl rfl ?_
            refine V_istore_n dX8_go_176 rfl (L' := [(0, .ref (a 0)), (1, .int ((X 1) q)), (2, .int (bi (isL ((X 1) q))))]) rfl ?_
            refine V_iconst 1 dX8_go_177 (by decide) ?_
            refine V_istore_n dX8_go_178 rfl (L' := [(0, .ref (a 0)), (1, .int ((X 1) q)), (2, .int (bi (isL ((X 1) q)))), (3, .int 1)]) rfl ?_
            refine V_aload_n dX8_go_179 0 rfl ?_
            refine V_lconst 0 dX8_go_180 (by decide) ?_
            refine V_put dX8_go_181 pX8_37 0 rfl rfl rfl rfl (ws' := cM w a th tp sz q q so nu fa pl 0 sn gt gs ps X) rfl ?_
            refine V_aload_n dX8_go_184 0 rfl ?_
            refine V_iconst 0 dX8_go_185 (by decide) ?_
            refine V_put dX8_go_186 pX8_41 0 rfl rfl rfl rfl (ws' := cM w a th tp sz q q so 0 fa pl 0 sn gt gs ps X) rfl ?_
            exact lp_M_go2 w a th tp sz fa pl sn gt gs ps X q so nu wd hs (by omega) (by grind) (by omega) (sz + 1 - q) q true 0 0 (by omega) (by omega) (by omega) rfl
          · refine V_aload_n dX8_go_134 0 rfl ?_
            refine V_iload_n dX8_go_135 1 rfl ?_
            refine V_bipush 59 dX8_go_136 (by decide) ?_
            refine V_icmp_eq 147 dX8_go_138 (by decide) (fun zc11 => ?_) (fun zc11 => ?_)
            · refine V_iconst 4 dX8_go_147 (by decide) ?_
              refine V_goto 152 dX8_go_148 (by decide) ?_
              refine V_put dX8_go_152 pX8_27 0 rfl rfl rfl rfl (ws' := cM w a th tp sz q q 4 nu fa pl wd sn gt gs ps X) rfl ?_
              refine V_aload_n dX8_go_155 0 rfl ?_
              refine V_iload_n dX8_go_156 1 rfl ?_
              refine V_i2l dX8_go_157 ?_
              refine V_put dX8_go_158 pX8_37 0 rfl rfl rfl rfl (ws' := cM w a th tp sz q q 4 nu fa pl (Int32.toInt64 ((X 1) q)) sn gt gs ps X) rfl ?_
              refine V_aload_n dX8_go_161 0 rfl ?_
              refine V_dup dX8_go_162 rfl ?_
              refine V_get dX8_go_163 fX8_21 0 rfl rfl ?_
              refine V_iconst 1 dX8_go_166 (by decide) ?_
              refine V_iadd dX8_go_167 ?_
              refine V_casti (y := nI (q + 1)) (nI_add q 1) ?_
              refine V_put dX8_go_168 pX8_21 0 rfl rfl rfl rfl (ws' := cM w a th tp sz (q + 1) q 4 nu fa pl (Int32.toInt64 ((X 1) q)) sn gt gs ps X) rfl ?_
              exact V_vret dX8_go_171 rfl (nb rfl) (nb rfl) ⟨rfl, by rw [show goS (X 1) sz q nu wd = (q + 1, q, 4, nu, Int32.toInt64 ((X 1) q)) by grind [goS]]⟩
            · refine V_iload_n dX8_go_141 1 rfl ?_
              refine V_bipush 45 dX8_go_142 (by decide) ?_
              refine V_icmp_ne 151 dX8_go_144 (by decide) (fun zc12 => ?_) (fun zc12 => ?_)
              · refine V_iconst 1 dX8_go_151 (by decide) ?_
                refine V_put dX8_go_152 pX8_27 0 rfl rfl rfl rfl (ws' := cM w a th tp sz q q 1 nu fa pl wd sn gt gs ps X) rfl ?_
                refine V_aload_n dX8_go_155 0 rfl ?_
                refine V_iload_n dX8_go_156 1 rfl ?_
                refine V_i2l dX8_go_157 ?_
                refine V_put dX8_go_158 pX8_37 0 rfl rfl rfl rfl (ws' := cM w a th tp sz q q 1 nu fa pl (Int32.toInt64 ((X 1) q)) sn gt gs ps X) rfl ?_
                refine V_aload_n dX8_go_161 0 rfl ?_
                refine V_dup dX8_go_162 rfl ?_
                refine V_get dX8_go_163 fX8_21 0 rfl rfl ?_
                refine V_iconst 1 dX8_go_166 (by decide) ?_
                refine V_iadd dX8_go_167 ?_
                refine V_casti (y := nI (q + 1)) (nI_add q 1) ?_
                refine V_put dX8_go_168 pX8_21 0 rfl rfl rfl rfl (ws' := cM w a th tp sz (q + 1) q 1 nu fa pl (Int32.toInt64 ((X 1) q)) sn gt gs ps X) rfl ?_
                exact V_vret dX8_go_171 rfl (nb rfl) (nb rfl) ⟨rfl, by rw [show goS (X 1) sz q nu wd = (q + 1, q, 1, nu, Int32.toInt64 ((X 1) q)) by grind [goS]]⟩
              · refine V_iconst 4 dX8_go_147 (by decide) ?_
                refine V_goto 152 dX8_go_148 (by decide) ?_
                refine V_put dX8_go_152 pX8_27 0 rfl rfl rfl rfl (ws' := cM w a th tp sz q q 4 nu fa pl wd sn gt gs ps X) rfl ?_
                refine V_aload_n dX8_go_155 0 rfl ?_
                refine V_iload_n dX8_go_156 1 rfl ?_
                refine V_i2l dX8_go_157 ?_
                refine V_put dX8_go_158 pX8_37 0 rfl rfl rfl rfl (ws' := cM w a th tp sz q q 4 nu fa pl (Int32.toInt64 ((X 1) q)) sn gt gs ps X) rfl ?_
                refine V_aload_n dX8_go_161 0 rfl ?_
                refine V_dup dX8_go_162 rfl ?_
                refine V_get dX8_go_163 fX8_21 0 rfl rfl ?_
                refine V_iconst 1 dX8_go_166 (by decide) ?_
                refine V_iadd dX8_go_167 ?_
                refine V_casti (y := nI (q + 1)) (nI_add q 1) ?_
                refine V_put dX8_go_168 pX8_21 0 rfl rfl rfl rfl (ws' := cM w a th tp sz (q + 1) q 4 nu fa pl (Int32.toInt64 ((X 1) q)) sn gt gs ps X) rfl ?_
                exact V_vret dX8_go_171 rfl (nb rfl) (nb rfl) ⟨rfl, by rw [show goS (X 1) sz q nu wd = (q + 1, q, 4, nu, Int32.toInt64 ((X 1) q)) by grind [goS]]⟩
      · refine V_aload_n dX8_go_104 0 rfl ?_
        refine V_iconst 0 dX8_go_105 (by decide) ?_
        refine V_put dX8_go_106 pX8_27 0 rfl rfl rfl rfl (ws' := cM w a th tp sz q q 0 nu fa pl wd sn gt gs ps X) rfl ?_
        exact V_vret dX8_go_109 rfl (nb rfl) (nb rfl) ⟨rfl, by rw [show goS (X 1) sz q nu wd = (q, q, 0, nu, wd) by grind [goS]]⟩
    · refine V_aload_n dX8_go_80 0 rfl ?_
      refine V_sipush 600 dX8_go_81 (by decide) ?_
      refine V_put dX8_go_84 pX8_24 0 rfl rfl rfl rfl (ws' := cM w a th tp sz q 600 so nu fa pl wd sn gt gs ps X) rfl ?_
      refine V_aload_n dX8_go_87 0 rfl ?_
      refine V_iconst 1 dX8_go_88 (by decide) ?_
      refine V_put dX8_go_89 pX8_27 0 rfl rfl rfl rfl (ws' := cM w a th tp sz q 600 1 nu fa pl wd sn gt gs ps X) rfl ?_
      exact V_vret dX8_go_92 rfl (nb rfl) (nb rfl) ⟨rfl, by rw [show goS (X 1) sz q nu wd = (q, 600, 1, nu, wd) by grind [goS]]⟩

set_option maxRecDepth 100000 in
set_option maxHeartbeats 4000000 in
theorem lp_M_go1 (w : vWd) (a : Nat → Nat) (th : Int32) (tp sz : Nat) (fa pl sn : Nat) (gt : Int32) (gs ps : Nat) (X : Nat → Nat → Int32) (fr so : Nat) (nu : Int32) (wd : Int64) (hs : sz ≤ 640) (q0 : Nat) : ∀ (m : Nat) (q : Nat), (sz + 1 ≤ q + m) → (q ≤ sz) → (skp (X 1) sz (sz - q) q = skp (X 1) sz (sz - q0) q0) → V w mX8_go (vc w 1 0 0 (qE none (cM w a th tp sz (goS (X 1) sz (skp (X 1) sz (sz - q0) q0) nu wd).1 (goS (X 1) sz (skp (X 1) sz (sz - q0) q0) nu wd).2.1 (goS (X 1) sz (skp (X 1) sz (sz - q0) q0) nu wd).2.2.1 (goS (X 1) sz (skp (X 1) sz (sz - q0) q0) nu wd).2.2.2.1 fa pl (goS (X 1) sz (skp (X 1) sz (sz - q0) q0) nu wd).2.2.2.2 sn gt gs ps X))) 0 0 0 [(0, .ref (a 0))] [] (cM w a th tp sz q fr so nu fa pl wd sn gt gs ps X) := by
  intro m
  induction m with
  | zero =>
    intro q h1 h2 hR
    exact absurd h1 (by omega)
  | succ m ih =>
    intro q h1 h2 hR
    refine V_aload_n dX8_go_0 0 rfl ?_
    refine V_get dX8_go_1 fX8_21 0 rfl rfl ?_
    refine V_aload_n dX8_go_4 0 rfl ?_
    refine V_get dX8_go_5 fX8_18 0 rfl rfl ?_
    refine V_icmp_ge_n q sz 52 dX8_go_8 (by decide) (by omega) (by omega) (fun zc1 => ?_) (fun zc1 => ?_)
    · have he : skp (X 1) sz (sz - q) q = q := by
        cases hsq : sz - q with
        | zero => rfl
        | succ z => rw [skp, if_neg (by grind)]
      rw [← hR, he]
      exact g_52 w a th tp sz fa pl sn gt gs ps X q fr so nu wd hs h2
    · refine V_aload_n dX8_go_11 0 rfl ?_
      refine V_get dX8_go_12 fX8_7 0 rfl rfl ?_
      refine V_aload_n dX8_go_15 0 rfl ?_
      refine V_get dX8_go_16 fX8_21 0 rfl rfl ?_
      refine V_iald dX8_go_19 1 rfl rfl q rfl (by omega) ?_
      refine V_bipush 32 dX8_go_20 (by decide) ?_
      refine V_icmp_eq 39 dX8_go_22 (by decide) (fun zc2 => ?_) (fun zc2 => ?_)
      · refine V_aload_n dX8_go_39 0 rfl ?_
        refine V_dup dX8_go_40 rfl ?_
        refine V_get dX8_go_41 fX8_21 0 rfl rfl ?_
        refine V_iconst 1 dX8_go_44 (by decide) ?_
        refine V_iadd dX8_go_45 ?_
        refine V_casti (y := nI (q + 1)) (nI_add q 1) ?_
        refine V_put dX8_go_46 pX8_21 0 rfl rfl rfl rfl (ws' := cM w a th tp sz (q + 1) fr so nu fa pl wd sn gt gs ps X) rfl ?_
        refine V_goto 0 dX8_go_49 (by decide) ?_
        exact ih (q + 1) (by omega) (by omega) (by rw [← hR, show sz - q = sz - (q + 1) + 1 by omega, skp, if_pos (by grind)])
      · refine V_aload_n dX8_go_25 0 rfl ?_
        refine V_get dX8_go_26 fX8_7 0 rfl rfl ?_
        refine V_aload_n dX8_go_29 0 rfl ?_
        refine V_get dX8_go_30 fX8_21 0 rfl rfl ?_
        refine V_iald dX8_go_33 1 rfl rfl q rfl (by omega) ?_
        refine V_bipush 10 dX8_go_34 (by decide) ?_
        refine V_icmp_ne 52 dX8_go_36 (by decide) (fun zc3 => ?_) (fun zc3 => ?_)
        · have he : skp (X 1) sz (sz - q) q = q := by
            cases hsq : sz - q with
            | zero => rfl
            | succ z => rw [skp, if_neg (by grind)]
          rw [← hR, he]
          exact g_52 w a th tp sz fa pl sn gt gs ps X q fr so nu wd hs h2
        · refine V_aload_n dX8_go_39 0 rfl ?_
          refine V_dup dX8_go_40 rfl ?_
          refine V_get dX8_go_41 fX8_21 0 rfl rfl ?_
          refine V_iconst 1 dX8_go_44 (by decide) ?_
          refine V_iadd dX8_go_45 ?_
          refine V_casti (y := nI (q + 1)) (nI_add q 1) ?_
          refine V_put dX8_go_46 pX8_21 0 rfl rfl rfl rfl (ws' := cM w a th tp sz (q + 1) fr so nu fa pl wd sn gt gs ps X) rfl ?_
          refine V_goto 0 dX8_go_49 (by decide) ?_
          exact ih (q + 1) (by omega) (by omega) (by rw [← hR, show sz - q = sz - (q + 1) + 1 by omega, skp, if_pos (by grind)])

set_option maxRecDepth 100000 in
set_option maxHeartbeats 4000000 in
theorem c_M_go (w : vWd) (a : Nat → Nat) (th : Int32) (tp sz q fr so : Nat) (nu : Int32) (fa pl : Nat) (wd : Int64) (sn : Nat) (gt : Int32) (gs ps : Nat) (X : Nat → Nat → Int32) (hs : sz ≤ 640) (hq : q ≤ sz) : Ct w mX8_go 1 0 0 [.ref (a 0)] (cM w a th tp sz q fr so nu fa pl wd sn gt gs ps X) (qE none (cM w a th tp sz (goR (X 1) sz q nu wd).1 (goR (X 1) sz q nu wd).2.1 (goR (X 1) sz q nu wd).2.2.1 (goR (X 1) sz q nu wd).2.2.2.1 fa pl (goR (X 1) sz q nu wd).2.2.2.2 sn gt gs ps X)) := by
  refine Ct.of (L := [(0, .ref (a 0))]) (by decide) rfl rfl ?_
  exact lp_M_go1 w a th tp sz fa pl sn gt gs ps X fr so nu wd hs q (sz + 1) q (by omega) hq rfl
