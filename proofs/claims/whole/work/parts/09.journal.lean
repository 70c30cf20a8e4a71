/-! 09: CashDeriver$Journal -/
/-- a journal: period, lines, groups, pieces, struck, its six rows (accounts, amounts, groups of lines; credited, debited, moved of pieces) -/
abbrev JP : Type := Int32 × Nat × Nat × Nat × Bool × (Nat → Nat → Int32)
def cJ (w : vWd) (a : Nat → Nat) (J : JP) : va_W :=
  [(a 0, .inr (2, [.ref (a 1), .ref (a 2), .ref (a 3), .ref (a 4), .ref (a 5), .ref (a 6), .int J.1, .int (nI J.2.1), .int (nI J.2.2.1), .int (nI J.2.2.2.1), .int (bi J.2.2.2.2.1)])), (a 1, .inl (vA w 0, 6, .inl (J.2.2.2.2.2 0))), (a 2, .inl (vA w 0, 6, .inl (J.2.2.2.2.2 1))), (a 3, .inl (vA w 0, 6, .inl (J.2.2.2.2.2 2))), (a 4, .inl (vA w 0, 6, .inl (J.2.2.2.2.2 3))), (a 5, .inl (vA w 0, 6, .inl (J.2.2.2.2.2 4))), (a 6, .inl (vA w 0, 6, .inl (J.2.2.2.2.2 5)))]
/-- the limits that hold of every journal, in use or not -/
def okJ (J : JP) : Prop := J.2.1 ≤ 6 ∧ J.2.2.2.1 ≤ 6 ∧ J.2.2.1 ≤ 6
/-- x names a line (n lines) -/
def inN (n : Nat) (x : Int32) : Bool := !decide (x < 0) && decide (x < nI n) && decide (x < 6)
theorem inN_true {n : Nat} {x : Int32} (hn : n ≤ 6) (h : inN n x = true) : ∃ j : Nat, x = nI j ∧ j < n := by
  simp only [inN, Bool.and_eq_true, Bool.not_eq_true', decide_eq_true_eq, decide_eq_false_iff_not] at h
  obtain ⟨j, hj, rfl⟩ := nI_of h.1.1
  exact ⟨j, rfl, (nI_ltI hj (by omega)).mp h.1.2⟩
theorem inN_nI {n j : Nat} (hn : n ≤ 6) (hj : j < 2147483648) : inN n (nI j) = decide (j < n) := by
  have h1 : ¬ nI j < 0 := nI_pos hj
  have h2 : (nI j < nI n) = (j < n) := propext (nI_ltI hj (by omega))
  have h3 : (nI j < 6) = (j < 6) := propext (nI_ltI (b := 6) hj (by omega))
  simp only [inN, h2, h3, h1]
  by_cases c : j < n
  · have : j < 6 := by omega
    simp [c, this]
  · simp [c]
def jAcc (J : JP) (x : Int32) : Int32 := if inN J.2.1 x then J.2.2.2.2.2 0 x.toNatClampNeg else -1
def jAmt (J : JP) (x : Int32) : Int32 := if inN J.2.1 x then J.2.2.2.2.2 1 x.toNatClampNeg else 0
def jGrp (J : JP) (x : Int32) : Int32 := if inN J.2.1 x then J.2.2.2.2.2 2 x.toNatClampNeg else -1
def jCre (J : JP) (x : Int32) : Int32 := if inN J.2.2.2.1 x then J.2.2.2.2.2 3 x.toNatClampNeg else -1
def jDeb (J : JP) (x : Int32) : Int32 := if inN J.2.2.2.1 x then J.2.2.2.2.2 4 x.toNatClampNeg else -1
def jMov (J : JP) (x : Int32) : Int32 := if inN J.2.2.2.1 x then J.2.2.2.2.2 5 x.toNatClampNeg else 0
def jCounts (J : JP) (fr to : Int32) : Bool := !J.2.2.2.2.1 && decide (fr ≤ J.1) && decide (J.1 ≤ to)
def jBegin (p : Int32) (J : JP) : JP := (p, 0, 0, 0, false, J.2.2.2.2.2)
def jAdd (J : JP) (x y : Int32) : JP := if J.2.1 < 6 then (J.1, J.2.1 + 1, J.2.2.1, J.2.2.2.1, J.2.2.2.2.1, uX (uX J.2.2.2.2.2 0 (upd (J.2.2.2.2.2 0) J.2.1 x)) 1 (upd (J.2.2.2.2.2 1) J.2.1 y)) else J
def jPiece (J : JP) (x y z : Int32) : JP := if J.2.2.2.1 < 6 then (J.1, J.2.1, J.2.2.1, J.2.2.2.1 + 1, J.2.2.2.2.1, uX (uX (uX J.2.2.2.2.2 3 (upd (J.2.2.2.2.2 3) J.2.2.2.1 x)) 4 (upd (J.2.2.2.2.2 4) J.2.2.2.1 y)) 5 (upd (J.2.2.2.2.2 5) J.2.2.2.1 z)) else J
def jSetG (J : JP) (x y : Int32) : JP := if inN J.2.1 x then (J.1, J.2.1, J.2.2.1, J.2.2.2.1, J.2.2.2.2.1, uX J.2.2.2.2.2 2 (upd (J.2.2.2.2.2 2) x.toNatClampNeg y)) else J
def jDrop (J : JP) : JP := (J.1, J.2.1 - 2, J.2.2.1, J.2.2.2.1, J.2.2.2.2.1, J.2.2.2.2.2)
/-- the sum of the first k amounts -/
def jSum (J : JP) : Nat → Int32
  | 0 => 0
  | k + 1 => jSum J k + J.2.2.2.2.2 1 k
def jNet (J : JP) (a : Int32) : Nat → Int32
  | 0 => 0
  | k + 1 => if J.2.2.2.2.2 0 k = a then jNet J a k + J.2.2.2.2.2 1 k else jNet J a k

set_option maxRecDepth 100000 in
set_option maxHeartbeats 4000000 in
theorem c_J_period (w : vWd) (a : Nat → Nat) (J : JP) : Ct w mX2_period 0 0 0 [.ref (a 0)] (cJ w a J) (qE (some (.int J.1)) (cJ w a J)) := by
  refine Ct.of (L := [(0, .ref (a 0))]) (by decide) rfl rfl ?_
  refine V_aload_n dX2_period_0 0 rfl ?_
  refine V_get dX2_period_1 fX2_30 0 rfl rfl ?_
  exact V_iret dX2_period_4 rfl (nb rfl) (nb rfl) ⟨rfl, rfl⟩

set_option maxRecDepth 100000 in
set_option maxHeartbeats 4000000 in
theorem c_J_lines (w : vWd) (a : Nat → Nat) (J : JP) : Ct w mX2_lines 0 0 0 [.ref (a 0)] (cJ w a J) (qE (some (.int (nI J.2.1))) (cJ w a J)) := by
  refine Ct.of (L := [(0, .ref (a 0))]) (by decide) rfl rfl ?_
  refine V_aload_n dX2_lines_0 0 rfl ?_
  refine V_get dX2_lines_1 fX2_34 0 rfl rfl ?_
  exact V_iret dX2_lines_4 rfl (nb rfl) (nb rfl) ⟨rfl, rfl⟩

set_option maxRecDepth 100000 in
set_option maxHeartbeats 4000000 in
theorem c_J_groups (w : vWd) (a : Nat → Nat) (J : JP) : Ct w mX2_groups 0 0 0 [.ref (a 0)] (cJ w a J) (qE (some (.int (nI J.2.2.1))) (cJ w a J)) := by
  refine Ct.of (L := [(0, .ref (a 0))]) (by decide) rfl rfl ?_
  refine V_aload_n dX2_groups_0 0 rfl ?_
  refine V_get dX2_groups_1 fX2_37 0 rfl rfl ?_
  exact V_iret dX2_groups_4 rfl (nb rfl) (nb rfl) ⟨rfl, rfl⟩

set_option maxRecDepth 100000 in
set_option maxHeartbeats 4000000 in
theorem c_J_pieces (w : vWd) (a : Nat → Nat) (J : JP) : Ct w mX2_pieces 0 0 0 [.ref (a 0)] (cJ w a J) (qE (some (.int (nI J.2.2.2.1))) (cJ w a J)) := by
  refine Ct.of (L := [(0, .ref (a 0))]) (by decide) rfl rfl ?_
  refine V_aload_n dX2_pieces_0 0 rfl ?_
  refine V_get dX2_pieces_1 fX2_40 0 rfl rfl ?_
  exact V_iret dX2_pieces_4 rfl (nb rfl) (nb rfl) ⟨rfl, rfl⟩

set_option maxRecDepth 100000 in
set_option maxHeartbeats 4000000 in
theorem c_J_isStruck (w : vWd) (a : Nat → Nat) (J : JP) : Ct w mX2_isStruck 0 0 0 [.ref (a 0)] (cJ w a J) (qE (some (.int (bi J.2.2.2.2.1))) (cJ w a J)) := by
  refine Ct.of (L := [(0, .ref (a 0))]) (by decide) rfl rfl ?_
  refine V_aload_n dX2_isStruck_0 0 rfl ?_
  refine V_get dX2_isStruck_1 fX2_43 0 rfl rfl ?_
  exact V_bret dX2_isStruck_4 rfl (nb rfl) (nb rfl) ⟨rfl, rfl⟩

set_option maxRecDepth 100000 in
set_option maxHeartbeats 4000000 in
theorem c_J_begin (w : vWd) (a : Nat → Nat) (J : JP) (x : Int32) : Ct w mX2_begin 0 0 0 [.ref (a 0), .int x] (cJ w a J) (qE none (cJ w a (jBegin x J))) := by
  refine Ct.of (L := [(0, .ref (a 0)), (1, .int x)]) (by decide) rfl rfl ?_
  refine V_aload_n dX2_begin_0 0 rfl ?_
  refine V_iload_n dX2_begin_1 1 rfl ?_
  refine V_put dX2_begin_2 pX2_30 0 rfl rfl rfl rfl (ws' := cJ w a (x, J.2.1, J.2.2.1, J.2.2.2.1, J.2.2.2.2.1, J.2.2.2.2.2)) rfl ?_
  refine V_aload_n dX2_begin_5 0 rfl ?_
  refine V_iconst 0 dX2_begin_6 (by decide) ?_
  refine V_put dX2_begin_7 pX2_34 0 rfl rfl rfl rfl (ws' := cJ w a (x, 0, J.2.2.1, J.2.2.2.1, J.2.2.2.2.1, J.2.2.2.2.2)) rfl ?_
  refine V_aload_n dX2_begin_10 0 rfl ?_
  refine V_iconst 0 dX2_begin_11 (by decide) ?_
  refine V_put dX2_begin_12 pX2_37 0 rfl rfl rfl rfl (ws' := cJ w a (x, 0, 0, J.2.2.2.1, J.2.2.2.2.1, J.2.2.2.2.2)) rfl ?_
  refine V_aload_n dX2_begin_15 0 rfl ?_
  refine V_iconst 0 dX2_begin_16 (by decide) ?_
  refine V_put dX2_begin_17 pX2_40 0 rfl rfl rfl rfl (ws' := cJ w a (x, 0, 0, 0, J.2.2.2.2.1, J.2.2.2.2.2)) rfl ?_
  refine V_aload_n dX2_begin_20 0 rfl ?_
  refine V_iconst 0 dX2_begin_21 (by decide) ?_
  refine V_put dX2_begin_22 pX2_43 0 rfl rfl rfl rfl (ws' := cJ w a (x, 0, 0, 0, false, J.2.2.2.2.2)) rfl ?_
  exact V_vret dX2_begin_25 rfl (nb rfl) (nb rfl) ⟨rfl, rfl⟩

set_option maxRecDepth 100000 in
set_option maxHeartbeats 4000000 in
theorem c_J_toggle (w : vWd) (a : Nat → Nat) (J : JP) : Ct w mX2_toggle 0 0 0 [.ref (a 0)] (cJ w a J) (qE none (cJ w a (J.1, J.2.1, J.2.2.1, J.2.2.2.1, !J.2.2.2.2.1, J.2.2.2.2.2))) := by
  refine Ct.of (L := [(0, .ref (a 0))]) (by decide) rfl rfl ?_
  refine V_aload_n dX2_toggle_0 0 rfl ?_
  refine V_aload_n dX2_toggle_1 0 rfl ?_
  refine V_get dX2_toggle_2 fX2_43 0 rfl rfl ?_
  refine V_ifne_b 12 dX2_toggle_5 (by decide) (fun zc1 => ?_) (fun zc1 => ?_)
  · refine V_iconst 0 dX2_toggle_12 (by decide) ?_
    refine V_put dX2_toggle_13 pX2_43 0 rfl rfl rfl rfl (ws' := cJ w a (J.1, J.2.1, J.2.2.1, J.2.2.2.1, false, J.2.2.2.2.2)) rfl ?_
    exact V_vret dX2_toggle_16 rfl (nb rfl) (nb rfl) ⟨rfl, by rw [zc1]; rfl⟩
  · refine V_iconst 1 dX2_toggle_8 (by decide) ?_
    refine V_goto 13 dX2_toggle_9 (by decide) ?_
    refine V_put dX2_toggle_13 pX2_43 0 rfl rfl rfl rfl (ws' := cJ w a (J.1, J.2.1, J.2.2.1, J.2.2.2.1, true, J.2.2.2.2.2)) rfl ?_
    exact V_vret dX2_toggle_16 rfl (nb rfl) (nb rfl) ⟨rfl, by rw [zc1]; rfl⟩

set_option maxRecDepth 100000 in
set_option maxHeartbeats 4000000 in
theorem c_J_countsIn (w : vWd) (a : Nat → Nat) (J : JP) (x : Int32) (y : Int32) : Ct w mX2_countsIn 0 0 0 [.ref (a 0), .int x, .int y] (cJ w a J) (qE (some (.int (bi (jCounts J x y)))) (cJ w a J)) := by
  refine Ct.of (L := [(0, .ref (a 0)), (1, .int x), (2, .int y)]) (by decide) rfl rfl ?_
  refine V_aload_n dX2_countsIn_0 0 rfl ?_
  refine V_get dX2_countsIn_1 fX2_43 0 rfl rfl ?_
  refine V_ifne_b 27 dX2_countsIn_4 (by decide) (fun zc1 => ?_) (fun zc1 => ?_)
  · refine V_iconst 0 dX2_countsIn_27 (by decide) ?_
    exact V_zret dX2_countsIn_28 rfl rfl (nb rfl) (nb rfl) ⟨by grind [jCounts, bi], rfl⟩
  · refine V_aload_n dX2_countsIn_7 0 rfl ?_
    refine V_get dX2_countsIn_8 fX2_30 0 rfl rfl ?_
    refine V_iload_n dX2_countsIn_11 1 rfl ?_
    refine V_icmp_lt 27 dX2_countsIn_12 (by decide) (fun zc2 => ?_) (fun zc2 => ?_)
    · refine V_iconst 0 dX2_countsIn_27 (by decide) ?_
      exact V_zret dX2_countsIn_28 rfl rfl (nb rfl) (nb rfl) ⟨by grind [jCounts, bi], rfl⟩
    · refine V_aload_n dX2_countsIn_15 0 rfl ?_
      refine V_get dX2_countsIn_16 fX2_30 0 rfl rfl ?_
      refine V_iload_n dX2_countsIn_19 2 rfl ?_
      refine V_icmp_gt 27 dX2_countsIn_20 (by decide) (fun zc3 => ?_) (fun zc3 => ?_)
      · refine V_iconst 0 dX2_countsIn_27 (by decide) ?_
        exact V_zret dX2_countsIn_28 rfl rfl (nb rfl) (nb rfl) ⟨by grind [jCounts, bi], rfl⟩
      · refine V_iconst 1 dX2_countsIn_23 (by decide) ?_
        refine V_goto 28 dX2_countsIn_24 (by decide) ?_
        exact V_zret dX2_countsIn_28 rfl rfl (nb rfl) (nb rfl) ⟨by grind [jCounts, bi], rfl⟩

set_option maxRecDepth 100000 in
set_option maxHeartbeats 4000000 in
theorem c_J_hasLine (w : vWd) (a : Nat → Nat) (J : JP) (x : Int32) : Ct w mX2_hasLine 0 0 0 [.ref (a 0), .int x] (cJ w a J) (qE (some (.int (bi (inN J.2.1 x)))) (cJ w a J)) := by
  refine Ct.of (L := [(0, .ref (a 0)), (1, .int x)]) (by decide) rfl rfl ?_
  refine V_iload_n dX2_hasLine_0 1 rfl ?_
  refine V_if_lt 22 dX2_hasLine_1 (by decide) (fun zc1 => ?_) (fun zc1 => ?_)
  · refine V_iconst 0 dX2_hasLine_22 (by decide) ?_
    exact V_zret dX2_hasLine_23 rfl rfl (nb rfl) (nb rfl) ⟨by grind [inN, bi], rfl⟩
  · refine V_iload_n dX2_hasLine_4 1 rfl ?_
    refine V_aload_n dX2_hasLine_5 0 rfl ?_
    refine V_get dX2_hasLine_6 fX2_34 0 rfl rfl ?_
    refine V_icmp_ge 22 dX2_hasLine_9 (by decide) (fun zc2 => ?_) (fun zc2 => ?_)
    · refine V_iconst 0 dX2_hasLine_22 (by decide) ?_
      exact V_zret dX2_hasLine_23 rfl rfl (nb rfl) (nb rfl) ⟨by grind [inN, bi], rfl⟩
    · refine V_iload_n dX2_hasLine_12 1 rfl ?_
      refine V_bipush 6 dX2_hasLine_13 (by decide) ?_
      refine V_icmp_ge 22 dX2_hasLine_15 (by decide) (fun zc3 => ?_) (fun zc3 => ?_)
      · refine V_iconst 0 dX2_hasLine_22 (by decide) ?_
        exact V_zret dX2_hasLine_23 rfl rfl (nb rfl) (nb rfl) ⟨by grind [inN, bi], rfl⟩
      · refine V_iconst 1 dX2_hasLine_18 (by decide) ?_
        refine V_goto 23 dX2_hasLine_19 (by decide) ?_
        exact V_zret dX2_hasLine_23 rfl rfl (nb rfl) (nb rfl) ⟨by grind [inN, bi], rfl⟩

set_option maxRecDepth 100000 in
set_option maxHeartbeats 4000000 in
theorem c_J_hasPiece (w : vWd) (a : Nat → Nat) (J : JP) (x : Int32) : Ct w mX2_hasPiece 0 0 0 [.ref (a 0), .int x] (cJ w a J) (qE (some (.int (bi (inN J.2.2.2.1 x)))) (cJ w a J)) := by
  refine Ct.of (L := [(0, .ref (a 0)), (1, .int x)]) (by decide) rfl rfl ?_
  refine V_iload_n dX2_hasPiece_0 1 rfl ?_
  refine V_if_lt 22 dX2_hasPiece_1 (by decide) (fun zc1 => ?_) (fun zc1 => ?_)
  · refine V_iconst 0 dX2_hasPiece_22 (by decide) ?_
    exact V_zret dX2_hasPiece_23 rfl rfl (nb rfl) (nb rfl) ⟨by grind [inN, bi], rfl⟩
  · refine V_iload_n dX2_hasPiece_4 1 rfl ?_
    refine V_aload_n dX2_hasPiece_5 0 rfl ?_
    refine V_get dX2_hasPiece_6 fX2_40 0 rfl rfl ?_
    refine V_icmp_ge 22 dX2_hasPiece_9 (by decide) (fun zc2 => ?_) (fun zc2 => ?_)
    · refine V_iconst 0 dX2_hasPiece_22 (by decide) ?_
      exact V_zret dX2_hasPiece_23 rfl rfl (nb rfl) (nb rfl) ⟨by grind [inN, bi], rfl⟩
    · refine V_iload_n dX2_hasPiece_12 1 rfl ?_
      refine V_bipush 6 dX2_hasPiece_13 (by decide) ?_
      refine V_icmp_ge 22 dX2_hasPiece_15 (by decide) (fun zc3 => ?_) (fun zc3 => ?_)
      · refine V_iconst 0 dX2_hasPiece_22 (by decide) ?_
        exact V_zret dX2_hasPiece_23 rfl rfl (nb rfl) (nb rfl) ⟨by grind [inN, bi], rfl⟩
      · refine V_iconst 1 dX2_hasPiece_18 (by decide) ?_
        refine V_goto 23 dX2_hasPiece_19 (by decide) ?_
        exact V_zret dX2_hasPiece_23 rfl rfl (nb rfl) (nb rfl) ⟨by grind [inN, bi], rfl⟩

set_option maxRecDepth 100000 in
set_option maxHeartbeats 4000000 in
theorem c_J_accountOf (w : vWd) (a : Nat → Nat) (J : JP) (x : Int32) (hJ : okJ J) : Ct w mX2_accountOf 1 0 0 [.ref (a 0), .int x] (cJ w a J) (qE (some (.int (jAcc J x))) (cJ w a J)) := by
  refine Ct.of (L := [(0, .ref (a 0)), (1, .int x)]) (by decide) rfl rfl ?_
  obtain ⟨hJ1, hJ2, hJ3⟩ := id hJ
  refine V_aload_n dX2_accountOf_0 0 rfl ?_
  refine V_iload_n dX2_accountOf_1 1 rfl ?_
  refine V_selfR dX2_accountOf_2 lX2_53 (c_J_hasLine w a J x) rfl rfl 0 rfl rfl rfl rfl ?_
  refine V_ifeq_b 17 dX2_accountOf_5 (by decide) (fun zc1 => ?_) (fun zc1 => ?_)
  · refine V_iconst (-1) dX2_accountOf_17 (by decide) ?_
    exact V_iret dX2_accountOf_18 rfl (nb rfl) (nb rfl) ⟨by rw [jAcc, zc1]; rfl, rfl⟩
  · refine V_aload_n dX2_accountOf_8 0 rfl ?_
    refine V_get dX2_accountOf_9 fX2_9 0 rfl rfl ?_
    refine V_iload_n dX2_accountOf_12 1 rfl ?_
    obtain ⟨j, hxj, hjn⟩ := inN_true hJ1 zc1
    refine V_iald dX2_accountOf_13 1 rfl rfl j hxj (by omega) ?_
    refine V_goto 18 dX2_accountOf_14 (by decide) ?_
    exact V_iret dX2_accountOf_18 rfl (nb rfl) (nb rfl) ⟨by rw [jAcc, if_pos zc1, hxj, nI_clamp (by omega)], rfl⟩

theorem jAcc_n {J : JP} (hJ : okJ J) {k : Nat} (hk : k < J.2.1) : jAcc J (nI k) = J.2.2.2.2.2 0 k := by
  obtain ⟨hJ1, hJ2, hJ3⟩ := hJ
  rw [jAcc, inN_nI (by omega) (by omega), if_pos (by simpa using hk), nI_clamp (by omega)]

theorem c_J_accountOf_n (w : vWd) (a : Nat → Nat) (J : JP) (hJ : okJ J) (k : Nat) (hk : k < J.2.1) : Ct w mX2_accountOf 1 0 0 [.ref (a 0), .int (nI k)] (cJ w a J) (qE (some (.int (J.2.2.2.2.2 0 k))) (cJ w a J)) := by
  have h := c_J_accountOf w a J (nI k) hJ
  rwa [jAcc_n hJ hk] at h

set_option maxRecDepth 100000 in
set_option maxHeartbeats 4000000 in
theorem c_J_amountOf (w : vWd) (a : Nat → Nat) (J : JP) (x : Int32) (hJ : okJ J) : Ct w mX2_amountOf 1 0 0 [.ref (a 0), .int x] (cJ w a J) (qE (some (.int (jAmt J x))) (cJ w a J)) := by
  refine Ct.of (L := [(0, .ref (a 0)), (1, .int x)]) (by decide) rfl rfl ?_
  obtain ⟨hJ1, hJ2, hJ3⟩ := id hJ
  refine V_aload_n dX2_amountOf_0 0 rfl ?_
  refine V_iload_n dX2_amountOf_1 1 rfl ?_
  refine V_selfR dX2_amountOf_2 lX2_53 (c_J_hasLine w a J x) rfl rfl 0 rfl rfl rfl rfl ?_
  refine V_ifeq_b 17 dX2_amountOf_5 (by decide) (fun zc1 => ?_) (fun zc1 => ?_)
  · refine V_iconst 0 dX2_amountOf_17 (by decide) ?_
    exact V_iret dX2_amountOf_18 rfl (nb rfl) (nb rfl) ⟨by rw [jAmt, zc1]; rfl, rfl⟩
  · refine V_aload_n dX2_amountOf_8 0 rfl ?_
    refine V_get dX2_amountOf_9 fX2_15 0 rfl rfl ?_
    refine V_iload_n dX2_amountOf_12 1 rfl ?_
    obtain ⟨j, hxj, hjn⟩ := inN_true hJ1 zc1
    refine V_iald dX2_amountOf_13 2 rfl rfl j hxj (by omega) ?_
    refine V_goto 18 dX2_amountOf_14 (by decide) ?_
    exact V_iret dX2_amountOf_18 rfl (nb rfl) (nb rfl) ⟨by rw [jAmt, if_pos zc1, hxj, nI_clamp (by omega)], rfl⟩

theorem jAmt_n {J : JP} (hJ : okJ J) {k : Nat} (hk : k < J.2.1) : jAmt J (nI k) = J.2.2.2.2.2 1 k := by
  obtain ⟨hJ1, hJ2, hJ3⟩ := hJ
  rw [jAmt, inN_nI (by omega) (by omega), if_pos (by simpa using hk), nI_clamp (by omega)]

theorem c_J_amountOf_n (w : vWd) (a : Nat → Nat) (J : JP) (hJ : okJ J) (k : Nat) (hk : k < J.2.1) : Ct w mX2_amountOf 1 0 0 [.ref (a 0), .int (nI k)] (cJ w a J) (qE (some (.int (J.2.2.2.2.2 1 k))) (cJ w a J)) := by
  have h := c_J_amountOf w a J (nI k) hJ
  rwa [jAmt_n hJ hk] at h

set_option maxRecDepth 100000 in
set_option maxHeartbeats 4000000 in
theorem c_J_groupOf (w : vWd) (a : Nat → Nat) (J : JP) (x : Int32) (hJ : okJ J) : Ct w mX2_groupOf 1 0 0 [.ref (a 0), .int x] (cJ w a J) (qE (some (.int (jGrp J x))) (cJ w a J)) := by
  refine Ct.of (L := [(0, .ref (a 0)), (1, .int x)]) (by decide) rfl rfl ?_
  obtain ⟨hJ1, hJ2, hJ3⟩ := id hJ
  refine V_aload_n dX2_groupOf_0 0 rfl ?_
  refine V_iload_n dX2_groupOf_1 1 rfl ?_
  refine V_selfR dX2_groupOf_2 lX2_53 (c_J_hasLine w a J x) rfl rfl 0 rfl rfl rfl rfl ?_
  refine V_ifeq_b 17 dX2_groupOf_5 (by decide) (fun zc1 => ?_) (fun zc1 => ?_)
  · refine V_iconst (-1) dX2_groupOf_17 (by decide) ?_
    exact V_iret dX2_groupOf_18 rfl (nb rfl) (nb rfl) ⟨by rw [jGrp, zc1]; rfl, rfl⟩
  · refine V_aload_n dX2_groupOf_8 0 rfl ?_
    refine V_get dX2_groupOf_9 fX2_18 0 rfl rfl ?_
    refine V_iload_n dX2_groupOf_12 1 rfl ?_
    obtain ⟨j, hxj, hjn⟩ := inN_true hJ1 zc1
    refine V_iald dX2_groupOf_13 3 rfl rfl j hxj (by omega) ?_
    refine V_goto 18 dX2_groupOf_14 (by decide) ?_
    exact V_iret dX2_groupOf_18 rfl (nb rfl) (nb rfl) ⟨by rw [jGrp, if_pos zc1, hxj, nI_clamp (by omega)], rfl⟩

theorem jGrp_n {J : JP} (hJ : okJ J) {k : Nat} (hk : k < J.2.1) : jGrp J (nI k) = J.2.2.2.2.2 2 k := by
  obtain ⟨hJ1, hJ2, hJ3⟩ := hJ
  rw [jGrp, inN_nI (by omega) (by omega), if_pos (by simpa using hk), nI_clamp (by omega)]

theorem c_J_groupOf_n (w : vWd) (a : Nat → Nat) (J : JP) (hJ : okJ J) (k : Nat) (hk : k < J.2.1) : Ct w mX2_groupOf 1 0 0 [.ref (a 0), .int (nI k)] (cJ w a J) (qE (some (.int (J.2.2.2.2.2 2 k))) (cJ w a J)) := by
  have h := c_J_groupOf w a J (nI k) hJ
  rwa [jGrp_n hJ hk] at h

set_option maxRecDepth 100000 in
set_option maxHeartbeats 4000000 in
theorem c_J_creditedOf (w : vWd) (a : Nat → Nat) (J : JP) (x : Int32) (hJ : okJ J) : Ct w mX2_creditedOf 1 0 0 [.ref (a 0), .int x] (cJ w a J) (qE (some (.int (jCre J x))) (cJ w a J)) := by
  refine Ct.of (L := [(0, .ref (a 0)), (1, .int x)]) (by decide) rfl rfl ?_
  obtain ⟨hJ1, hJ2, hJ3⟩ := id hJ
  refine V_aload_n dX2_creditedOf_0 0 rfl ?_
  refine V_iload_n dX2_creditedOf_1 1 rfl ?_
  refine V_selfR dX2_creditedOf_2 lX2_64 (c_J_hasPiece w a J x) rfl rfl 0 rfl rfl rfl rfl ?_
  refine V_ifeq_b 17 dX2_creditedOf_5 (by decide) (fun zc1 => ?_) (fun zc1 => ?_)
  · refine V_iconst (-1) dX2_creditedOf_17 (by decide) ?_
    exact V_iret dX2_creditedOf_18 rfl (nb rfl) (nb rfl) ⟨by rw [jCre, zc1]; rfl, rfl⟩
  · refine V_aload_n dX2_creditedOf_8 0 rfl ?_
    refine V_get dX2_creditedOf_9 fX2_21 0 rfl rfl ?_
    refine V_iload_n dX2_creditedOf_12 1 rfl ?_
    obtain ⟨j, hxj, hjn⟩ := inN_true hJ2 zc1
    refine V_iald dX2_creditedOf_13 4 rfl rfl j hxj (by omega) ?_
    refine V_goto 18 dX2_creditedOf_14 (by decide) ?_
    exact V_iret dX2_creditedOf_18 rfl (nb rfl) (nb rfl) ⟨by rw [jCre, if_pos zc1, hxj, nI_clamp (by omega)], rfl⟩

theorem jCre_n {J : JP} (hJ : okJ J) {k : Nat} (hk : k < J.2.2.2.1) : jCre J (nI k) = J.2.2.2.2.2 3 k := by
  obtain ⟨hJ1, hJ2, hJ3⟩ := hJ
  rw [jCre, inN_nI (by omega) (by omega), if_pos (by simpa using hk), nI_clamp (by omega)]

theorem c_J_creditedOf_n (w : vWd) (a : Nat → Nat) (J : JP) (hJ : okJ J) (k : Nat) (hk : k < J.2.2.2.1) : Ct w mX2_creditedOf 1 0 0 [.ref (a 0), .int (nI k)] (cJ w a J) (qE (some (.int (J.2.2.2.2.2 3 k))) (cJ w a J)) := by
  have h := c_J_creditedOf w a J (nI k) hJ
  rwa [jCre_n hJ hk] at h

set_option maxRecDepth 100000 in
set_option maxHeartbeats 4000000 in
theorem c_J_debitedOf (w : vWd) (a : Nat → Nat) (J : JP) (x : Int32) (hJ : okJ J) : Ct w mX2_debitedOf 1 0 0 [.ref (a 0), .int x] (cJ w a J) (qE (some (.int (jDeb J x))) (cJ w a J)) := by
  refine Ct.of (L := [(0, .ref (a 0)), (1, .int x)]) (by decide) rfl rfl ?_
  obtain ⟨hJ1, hJ2, hJ3⟩ := id hJ
  refine V_aload_n dX2_debitedOf_0 0 rfl ?_
  refine V_iload_n dX2_debitedOf_1 1 rfl ?_
  refine V_selfR dX2_debitedOf_2 lX2_64 (c_J_hasPiece w a J x) rfl rfl 0 rfl rfl rfl rfl ?_
  refine V_ifeq_b 17 dX2_debitedOf_5 (by decide) (fun zc1 => ?_) (fun zc1 => ?_)
  · refine V_iconst (-1) dX2_debitedOf_17 (by decide) ?_
    exact V_iret dX2_debitedOf_18 rfl (nb rfl) (nb rfl) ⟨by rw [jDeb, zc1]; rfl, rfl⟩
  · refine V_aload_n dX2_debitedOf_8 0 rfl ?_
    refine V_get dX2_debitedOf_9 fX2_24 0 rfl rfl ?_
    refine V_iload_n dX2_debitedOf_12 1 rfl ?_
    obtain ⟨j, hxj, hjn⟩ := inN_true hJ2 zc1
    refine V_iald dX2_debitedOf_13 5 rfl rfl j hxj (by omega) ?_
    refine V_goto 18 dX2_debitedOf_14 (by decide) ?_
    exact V_iret dX2_debitedOf_18 rfl (nb rfl) (nb rfl) ⟨by rw [jDeb, if_pos zc1, hxj, nI_clamp (by omega)], rfl⟩

theorem jDeb_n {J : JP} (hJ : okJ J) {k : Nat} (hk : k < J.2.2.2.1) : jDeb J (nI k) = J.2.2.2.2.2 4 k := by
  obtain ⟨hJ1, hJ2, hJ3⟩ := hJ
  rw [jDeb, inN_nI (by omega) (by omega), if_pos (by simpa using hk), nI_clamp (by omega)]

theorem c_J_debitedOf_n (w : vWd) (a : Nat → Nat) (J : JP) (hJ : okJ J) (k : Nat) (hk : k < J.2.2.2.1) : Ct w mX2_debitedOf 1 0 0 [.ref (a 0), .int (nI k)] (cJ w a J) (qE (some (.int (J.2.2.2.2.2 4 k))) (cJ w a J)) := by
  have h := c_J_debitedOf w a J (nI k) hJ
  rwa [jDeb_n hJ hk] at h

set_option maxRecDepth 100000 in
set_option maxHeartbeats 4000000 in
theorem c_J_movedOf (w : vWd) (a : Nat → Nat) (J : JP) (x : Int32) (hJ : okJ J) : Ct w mX2_movedOf 1 0 0 [.ref (a 0), .int x] (cJ w a J) (qE (some (.int (jMov J x))) (cJ w a J)) := by
  refine Ct.of (L := [(0, .ref (a 0)), (1, .int x)]) (by decide) rfl rfl ?_
  obtain ⟨hJ1, hJ2, hJ3⟩ := id hJ
  refine V_aload_n dX2_movedOf_0 0 rfl ?_
  refine V_iload_n dX2_movedOf_1 1 rfl ?_
  refine V_selfR dX2_movedOf_2 lX2_64 (c_J_hasPiece w a J x) rfl rfl 0 rfl rfl rfl rfl ?_
  refine V_ifeq_b 17 dX2_movedOf_5 (by decide) (fun zc1 => ?_) (fun zc1 => ?_)
  · refine V_iconst 0 dX2_movedOf_17 (by decide) ?_
    exact V_iret dX2_movedOf_18 rfl (nb rfl) (nb rfl) ⟨by rw [jMov, zc1]; rfl, rfl⟩
  · refine V_aload_n dX2_movedOf_8 0 rfl ?_
    refine V_get dX2_movedOf_9 fX2_27 0 rfl rfl ?_
    refine V_iload_n dX2_movedOf_12 1 rfl ?_
    obtain ⟨j, hxj, hjn⟩ := inN_true hJ2 zc1
    refine V_iald dX2_movedOf_13 6 rfl rfl j hxj (by omega) ?_
    refine V_goto 18 dX2_movedOf_14 (by decide) ?_
    exact V_iret dX2_movedOf_18 rfl (nb rfl) (nb rfl) ⟨by rw [jMov, if_pos zc1, hxj, nI_clamp (by omega)], rfl⟩

theorem jMov_n {J : JP} (hJ : okJ J) {k : Nat} (hk : k < J.2.2.2.1) : jMov J (nI k) = J.2.2.2.2.2 5 k := by
  obtain ⟨hJ1, hJ2, hJ3⟩ := hJ
  rw [jMov, inN_nI (by omega) (by omega), if_pos (by simpa using hk), nI_clamp (by omega)]

theorem c_J_movedOf_n (w : vWd) (a : Nat → Nat) (J : JP) (hJ : okJ J) (k : Nat) (hk : k < J.2.2.2.1) : Ct w mX2_movedOf 1 0 0 [.ref (a 0), .int (nI k)] (cJ w a J) (qE (some (.int (J.2.2.2.2.2 5 k))) (cJ w a J)) := by
  have h := c_J_movedOf w a J (nI k) hJ
  rwa [jMov_n hJ hk] at h

set_option maxRecDepth 100000 in
set_option maxHeartbeats 4000000 in
theorem c_J_add (w : vWd) (a : Nat → Nat) (J : JP) (x : Int32) (y : Int32) (hJ : okJ J) : Ct w mX2_add 0 0 0 [.ref (a 0), .int x, .int y] (cJ w a J) (qE none (cJ w a (jAdd J x y))) := by
  refine Ct.of (L := [(0, .ref (a 0)), (1, .int x), (2, .int y)]) (by decide) rfl rfl ?_
  obtain ⟨hJ1, hJ2, hJ3⟩ := id hJ
  refine V_aload_n dX2_add_0 0 rfl ?_
  refine V_get dX2_add_1 fX2_34 0 rfl rfl ?_
  refine V_bipush 6 dX2_add_4 (by decide) ?_
  refine V_icmp_ge_n J.2.1 6 39 dX2_add_6 (by decide) (by omega) (by omega) (fun zc1 => ?_) (fun zc1 => ?_)
  · exact V_vret dX2_add_39 rfl (nb rfl) (nb rfl) ⟨rfl, by rw [jAdd, if_neg (by omega)]⟩
  · refine V_aload_n dX2_add_9 0 rfl ?_
    refine V_get dX2_add_10 fX2_9 0 rfl rfl ?_
    refine V_aload_n dX2_add_13 0 rfl ?_
    refine V_get dX2_add_14 fX2_34 0 rfl rfl ?_
    refine V_iload_n dX2_add_17 1 rfl ?_
    refine V_iast dX2_add_18 1 rfl rfl J.2.1 rfl (by omega) (ws' := cJ w a (J.1, J.2.1, J.2.2.1, J.2.2.2.1, J.2.2.2.2.1, uX (J.2.2.2.2.2) 0 (upd (J.2.2.2.2.2 0) J.2.1 x))) rfl ?_
    refine V_aload_n dX2_add_19 0 rfl ?_
    refine V_get dX2_add_20 fX2_15 0 rfl rfl ?_
    refine V_aload_n dX2_add_23 0 rfl ?_
    refine V_get dX2_add_24 fX2_34 0 rfl rfl ?_
    refine V_iload_n dX2_add_27 2 rfl ?_
    refine V_iast dX2_add_28 2 rfl rfl J.2.1 rfl (by omega) (ws' := cJ w a (J.1, J.2.1, J.2.2.1, J.2.2.2.1, J.2.2.2.2.1, uX (uX (J.2.2.2.2.2) 0 (upd (J.2.2.2.2.2 0) J.2.1 x)) 1 (upd (J.2.2.2.2.2 1) J.2.1 y))) rfl ?_
    refine V_aload_n dX2_add_29 0 rfl ?_
    refine V_dup dX2_add_30 rfl ?_
    refine V_get dX2_add_31 fX2_34 0 rfl rfl ?_
    refine V_iconst 1 dX2_add_34 (by decide) ?_
    refine V_iadd dX2_add_35 ?_
    refine V_casti (y := nI (J.2.1 + 1)) (nI_add J.2.1 1) ?_
    refine V_put dX2_add_36 pX2_34 0 rfl rfl rfl rfl (ws' := cJ w a (J.1, J.2.1 + 1, J.2.2.1, J.2.2.2.1, J.2.2.2.2.1, uX (uX (J.2.2.2.2.2) 0 (upd (J.2.2.2.2.2 0) J.2.1 x)) 1 (upd (J.2.2.2.2.2 1) J.2.1 y))) rfl ?_
    exact V_vret dX2_add_39 rfl (nb rfl) (nb rfl) ⟨rfl, by rw [jAdd, if_pos zc1]⟩

set_option maxRecDepth 100000 in
set_option maxHeartbeats 4000000 in
theorem c_J_addPiece (w : vWd) (a : Nat → Nat) (J : JP) (x : Int32) (y : Int32) (z : Int32) (hJ : okJ J) : Ct w mX2_addPiece 0 0 0 [.ref (a 0), .int x, .int y, .int z] (cJ w a J) (qE none (cJ w a (jPiece J x y z))) := by
  refine Ct.of (L := [(0, .ref (a 0)), (1, .int x), (2, .int y), (3, .int z)]) (by decide) rfl rfl ?_
  obtain ⟨hJ1, hJ2, hJ3⟩ := id hJ
  refine V_aload_n dX2_addPiece_0 0 rfl ?_
  refine V_get dX2_addPiece_1 fX2_40 0 rfl rfl ?_
  refine V_bipush 6 dX2_addPiece_4 (by decide) ?_
  refine V_icmp_ge_n J.2.2.2.1 6 49 dX2_addPiece_6 (by decide) (by omega) (by omega) (fun zc1 => ?_) (fun zc1 => ?_)
  · exact V_vret dX2_addPiece_49 rfl (nb rfl) (nb rfl) ⟨rfl, by rw [jPiece, if_neg (by omega)]⟩
  · refine V_aload_n dX2_addPiece_9 0 rfl ?_
    refine V_get dX2_addPiece_10 fX2_21 0 rfl rfl ?_
    refine V_aload_n dX2_addPiece_13 0 rfl ?_
    refine V_get dX2_addPiece_14 fX2_40 0 rfl rfl ?_
    refine V_iload_n dX2_addPiece_17 1 rfl ?_
    refine V_iast dX2_addPiece_18 4 rfl rfl J.2.2.2.1 rfl (by omega) (ws' := cJ w a (J.1, J.2.1, J.2.2.1, J.2.2.2.1, J.2.2.2.2.1, uX (J.2.2.2.2.2) 3 (upd (J.2.2.2.2.2 3) J.2.2.2.1 x))) rfl ?_
    refine V_aload_n dX2_addPiece_19 0 rfl ?_
    refine V_get dX2_addPiece_20 fX2_24 0 rfl rfl ?_
    refine V_aload_n dX2_addPiece_23 0 rfl ?_
    refine V_get dX2_addPiece_24 fX2_40 0 rfl rfl ?_
    refine V_iload_n dX2_addPiece_27 2 rfl ?_
    refine V_iast dX2_addPiece_28 5 rfl rfl J.2.2.2.1 rfl (by omega) (ws' := cJ w a (J.1, J.2.1, J.2.2.1, J.2.2.2.1, J.2.2.2.2.1, uX (uX (J.2.2.2.2.2) 3 (upd (J.2.2.2.2.2 3) J.2.2.2.1 x)) 4 (upd (J.2.2.2.2.2 4) J.2.2.2.1 y))) rfl ?_
    refine V_aload_n dX2_addPiece_29 0 rfl ?_
    refine V_get dX2_addPiece_30 fX2_27 0 rfl rfl ?_
    refine V_aload_n dX2_addPiece_33 0 rfl ?_
    refine V_get dX2_addPiece_34 fX2_40 0 rfl rfl ?_
    refine V_iload_n dX2_addPiece_37 3 rfl ?_
    refine V_iast dX2_addPiece_38 6 rfl rfl J.2.2.2.1 rfl (by omega) (ws' := cJ w a (J.1, J.2.1, J.2.2.1, J.2.2.2.1, J.2.2.2.2.1, uX (uX (uX (J.2.2.2.2.2) 3 (upd (J.2.2.2.2.2 3) J.2.2.2.1 x)) 4 (upd (J.2.2.2.2.2 4) J.2.2.2.1 y)) 5 (upd (J.2.2.2.2.2 5) J.2.2.2.1 z))) rfl ?_
    refine V_aload_n dX2_addPiece_39 0 rfl ?_
    refine V_dup dX2_addPiece_40 rfl ?_
    refine V_get dX2_addPiece_41 fX2_40 0 rfl rfl ?_
    refine V_iconst 1 dX2_addPiece_44 (by decide) ?_
    refine V_iadd dX2_addPiece_45 ?_
    refine V_casti (y := nI (J.2.2.2.1 + 1)) (nI_add J.2.2.2.1 1) ?_
    refine V_put dX2_addPiece_46 pX2_40 0 rfl rfl rfl rfl (ws' := cJ w a (J.1, J.2.1, J.2.2.1, J.2.2.2.1 + 1, J.2.2.2.2.1, uX (uX (uX (J.2.2.2.2.2) 3 (upd (J.2.2.2.2.2 3) J.2.2.2.1 x)) 4 (upd (J.2.2.2.2.2 4) J.2.2.2.1 y)) 5 (upd (J.2.2.2.2.2 5) J.2.2.2.1 z))) rfl ?_
    exact V_vret dX2_addPiece_49 rfl (nb rfl) (nb rfl) ⟨rfl, by rw [jPiece, if_pos zc1]⟩

set_option maxRecDepth 100000 in
set_option maxHeartbeats 4000000 in
theorem c_J_setGroup (w : vWd) (a : Nat → Nat) (J : JP) (x : Int32) (y : Int32) (hJ : okJ J) : Ct w mX2_setGroup 1 0 0 [.ref (a 0), .int x, .int y] (cJ w a J) (qE none (cJ w a (jSetG J x y))) := by
  refine Ct.of (L := [(0, .ref (a 0)), (1, .int x), (2, .int y)]) (by decide) rfl rfl ?_
  obtain ⟨hJ1, hJ2, hJ3⟩ := id hJ
  refine V_aload_n dX2_setGroup_0 0 rfl ?_
  refine V_iload_n dX2_setGroup_1 1 rfl ?_
  refine V_selfR dX2_setGroup_2 lX2_53 (c_J_hasLine w a J x) rfl rfl 0 rfl rfl rfl rfl ?_
  refine V_ifeq_b 15 dX2_setGroup_5 (by decide) (fun zc1 => ?_) (fun zc1 => ?_)
  · exact V_vret dX2_setGroup_15 rfl (nb rfl) (nb rfl) ⟨rfl, by rw [jSetG, zc1]; rfl⟩
  · refine V_aload_n dX2_setGroup_8 0 rfl ?_
    refine V_get dX2_setGroup_9 fX2_18 0 rfl rfl ?_
    refine V_iload_n dX2_setGroup_12 1 rfl ?_
    refine V_iload_n dX2_setGroup_13 2 rfl ?_
    obtain ⟨j, hxj, hjn⟩ := inN_true hJ1 zc1
    refine V_iast dX2_setGroup_14 3 rfl rfl j hxj (by omega) (ws' := cJ w a (J.1, J.2.1, J.2.2.1, J.2.2.2.1, J.2.2.2.2.1, uX (J.2.2.2.2.2) 2 (upd (J.2.2.2.2.2 2) j y))) rfl ?_
    exact V_vret dX2_setGroup_15 rfl (nb rfl) (nb rfl) ⟨rfl, by rw [jSetG, if_pos zc1, hxj, nI_clamp (by omega)]⟩

theorem imax_drop : ∀ n : Nat, n ≤ 6 → imax (nI n - 2) 0 = nI (n - 2) := by decide +kernel
set_option maxRecDepth 100000 in
set_option maxHeartbeats 4000000 in
theorem c_J_dropTransfer (w : vWd) (a : Nat → Nat) (J : JP) (hJ : okJ J) : Ct w mX2_dropTransfer 1 0 0 [.ref (a 0)] (cJ w a J) (qE none (cJ w a (jDrop J))) := by
  refine Ct.of (L := [(0, .ref (a 0))]) (by decide) rfl rfl ?_
  obtain ⟨hJ1, hJ2, hJ3⟩ := id hJ
  refine V_aload_n dX2_dropTransfer_0 0 rfl ?_
  refine V_aload_n dX2_dropTransfer_1 0 rfl ?_
  refine V_get dX2_dropTransfer_2 fX2_34 0 rfl rfl ?_
  refine V_iconst 2 dX2_dropTransfer_5 (by decide) ?_
  refine V_isub dX2_dropTransfer_6 ?_
  refine V_iconst 0 dX2_dropTransfer_7 (by decide) ?_
  refine V_mmax dX2_dropTransfer_8 lX2_47 rfl ?_
  refine V_casti (y := nI (J.2.1 - 2)) (imax_drop _ hJ1) ?_
  refine V_put dX2_dropTransfer_11 pX2_34 0 rfl rfl rfl rfl (ws' := cJ w a (J.1, J.2.1 - 2, J.2.2.1, J.2.2.2.1, J.2.2.2.2.1, J.2.2.2.2.2)) rfl ?_
  exact V_vret dX2_dropTransfer_14 rfl (nb rfl) (nb rfl) ⟨rfl, rfl⟩

set_option maxRecDepth 100000 in
set_option maxHeartbeats 4000000 in
theorem c_J_setGroups (w : vWd) (a : Nat → Nat) (J : JP) (g : Nat) : Ct w mX2_setGroups 0 0 0 [.ref (a 0), .int (nI g)] (cJ w a J) (qE none (cJ w a (J.1, J.2.1, g, J.2.2.2.1, J.2.2.2.2.1, J.2.2.2.2.2))) := by
  refine Ct.of (L := [(0, .ref (a 0)), (1, .int (nI g))]) (by decide) rfl rfl ?_
  refine V_aload_n dX2_setGroups_0 0 rfl ?_
  refine V_iload_n dX2_setGroups_1 1 rfl ?_
  refine V_put dX2_setGroups_2 pX2_37 0 rfl rfl rfl rfl (ws' := cJ w a (J.1, J.2.1, g, J.2.2.2.1, J.2.2.2.2.1, J.2.2.2.2.2)) rfl ?_
  exact V_vret dX2_setGroups_5 rfl (nb rfl) (nb rfl) ⟨rfl, rfl⟩

set_option maxRecDepth 100000 in
set_option maxHeartbeats 4000000 in
theorem c_J_dropPieces (w : vWd) (a : Nat → Nat) (J : JP) : Ct w mX2_dropPieces 0 0 0 [.ref (a 0)] (cJ w a J) (qE none (cJ w a (J.1, J.2.1, J.2.2.1, 0, J.2.2.2.2.1, J.2.2.2.2.2))) := by
  refine Ct.of (L := [(0, .ref (a 0))]) (by decide) rfl rfl ?_
  refine V_aload_n dX2_dropPieces_0 0 rfl ?_
  refine V_iconst 0 dX2_dropPieces_1 (by decide) ?_
  refine V_put dX2_dropPieces_2 pX2_40 0 rfl rfl rfl rfl (ws' := cJ w a (J.1, J.2.1, J.2.2.1, 0, J.2.2.2.2.1, J.2.2.2.2.2)) rfl ?_
  exact V_vret dX2_dropPieces_5 rfl (nb rfl) (nb rfl) ⟨rfl, rfl⟩

set_option maxRecDepth 100000 in
set_option maxHeartbeats 4000000 in
theorem lp_J_total (w : vWd) (a : Nat → Nat) (J : JP) (hJ : okJ J) : ∀ (m : Nat) (k : Nat), (J.2.1 + 1 ≤ k + m) → (k ≤ J.2.1) → V w mX2_total (vc w 2 0 0 (qE (some (.int (jSum J J.2.1))) (cJ w a J))) 0 0 4 [(0, .ref (a 0)), (1, .int (jSum J k)), (2, .int (nI k))] [] (cJ w a J) := by
  intro m
  induction m with
  | zero =>
    intro k h1 h2
    exact absurd h1 (by omega)
  | succ m ih =>
    intro k h1 h2
    obtain ⟨hJ1, hJ2, hJ3⟩ := id hJ
    refine V_iload_n dX2_total_4 2 rfl ?_
    refine V_aload_n dX2_total_5 0 rfl ?_
    refine V_get dX2_total_6 fX2_34 0 rfl rfl ?_
    refine V_icmp_ge_n k J.2.1 26 dX2_total_9 (by decide) (by omega) (by omega) (fun zc1 => ?_) (fun zc1 => ?_)
    · refine V_iload_n dX2_total_26 1 rfl ?_
      exact V_iret dX2_total_27 rfl (nb rfl) (nb rfl) ⟨by rw [show k = J.2.1 by omega], rfl⟩
    · refine V_iload_n dX2_total_12 1 rfl ?_
      refine V_aload_n dX2_total_13 0 rfl ?_
      refine V_iload_n dX2_total_14 2 rfl ?_
      refine V_selfR dX2_total_15 lX2_57 (c_J_amountOf_n w a J hJ k (by omega)) rfl rfl 0 rfl rfl rfl rfl ?_
      refine V_iadd dX2_total_18 ?_
      refine V_istore_n dX2_total_19 rfl (L' := [(0, .ref (a 0)), (1, .int ((jSum J k) + (J.2.2.2.2.2 1 k))), (2, .int (nI k))]) rfl ?_
      refine V_iinc (nI (k + 1)) dX2_total_20 2 rfl (nI_i1 k) rfl (L' := [(0, .ref (a 0)), (1, .int ((jSum J k) + (J.2.2.2.2.2 1 k))), (2, .int (nI (k + 1)))]) rfl ?_
      refine V_goto 4 dX2_total_23 (by decide) ?_
      exact ih (k + 1) (by omega) (by omega)

set_option maxRecDepth 100000 in
set_option maxHeartbeats 4000000 in
theorem c_J_total (w : vWd) (a : Nat → Nat) (J : JP) (hJ : okJ J) : Ct w mX2_total 2 0 0 [.ref (a 0)] (cJ w a J) (qE (some (.int (jSum J J.2.1))) (cJ w a J)) := by
  refine Ct.of (L := [(0, .ref (a 0))]) (by decide) rfl rfl ?_
  refine V_iconst 0 dX2_total_0 (by decide) ?_
  refine V_istore_n dX2_total_1 rfl (L' := [(0, .ref (a 0)), (1, .int 0)]) rfl ?_
  refine V_iconst 0 dX2_total_2 (by decide) ?_
  refine V_istore_n dX2_total_3 rfl (L' := [(0, .ref (a 0)), (1, .int 0), (2, .int 0)]) rfl ?_
  exact lp_J_total w a J hJ (J.2.1 + 1) 0 (by omega) (by omega)

set_option maxRecDepth 100000 in
set_option maxHeartbeats 4000000 in
theorem lp_J_netOf (w : vWd) (a : Nat → Nat) (J : JP) (x : Int32) (hJ : okJ J) : ∀ (m : Nat) (k : Nat), (J.2.1 + 1 ≤ k + m) → (k ≤ J.2.1) → V w mX2_netOf (vc w 2 0 0 (qE (some (.int (jNet J x J.2.1))) (cJ w a J))) 0 0 4 [(0, .ref (a 0)), (1, .int x), (2, .int (jNet J x k)), (3, .int (nI k))] [] (cJ w a J) := by
  intro m
  induction m with
  | zero =>
    intro k h1 h2
    exact absurd h1 (by omega)
  | succ m ih =>
    intro k h1 h2
    obtain ⟨hJ1, hJ2, hJ3⟩ := id hJ
    refine V_iload_n dX2_netOf_4 3 rfl ?_
    refine V_aload_n dX2_netOf_5 0 rfl ?_
    refine V_get dX2_netOf_6 fX2_34 0 rfl rfl ?_
    refine V_icmp_ge_n k J.2.1 35 dX2_netOf_9 (by decide) (by omega) (by omega) (fun zc1 => ?_) (fun zc1 => ?_)
    · refine V_iload_n dX2_netOf_35 2 rfl ?_
      exact V_iret dX2_netOf_36 rfl (nb rfl) (nb rfl) ⟨by rw [show k = J.2.1 by omega], rfl⟩
    · refine V_aload_n dX2_netOf_12 0 rfl ?_
      refine V_iload_n dX2_netOf_13 3 rfl ?_
      refine V_selfR dX2_netOf_14 lX2_61 (c_J_accountOf_n w a J hJ k (by omega)) rfl rfl 0 rfl rfl rfl rfl ?_
      refine V_iload_n dX2_netOf_17 1 rfl ?_
      refine V_icmp_ne 29 dX2_netOf_18 (by decide) (fun zc2 => ?_) (fun zc2 => ?_)
      · refine V_iinc (nI (k + 1)) dX2_netOf_29 3 rfl (nI_i1 k) rfl (L' := [(0, .ref (a 0)), (1, .int x), (2, .int (jNet J x k)), (3, .int (nI (k + 1)))]) rfl ?_
        refine V_goto 4 dX2_netOf_32 (by decide) ?_
        rw [show jNet J x k = jNet J x (k + 1) by rw [jNet, if_neg zc2]]
        exact ih (k + 1) (by omega) (by omega)
      · refine V_iload_n dX2_netOf_21 2 rfl ?_
        refine V_aload_n dX2_netOf_22 0 rfl ?_
        refine V_iload_n dX2_netOf_23 3 rfl ?_
        refine V_selfR dX2_netOf_24 lX2_57 (c_J_amountOf_n w a J hJ k (by omega)) rfl rfl 0 rfl rfl rfl rfl ?_
        refine V_iadd dX2_netOf_27 ?_
        refine V_istore_n dX2_netOf_28 rfl (L' := [(0, .ref (a 0)), (1, .int x), (2, .int ((jNet J x k) + (J.2.2.2.2.2 1 k))), (3, .int (nI k))]) rfl ?_
        refine V_iinc (nI (k + 1)) dX2_netOf_29 3 rfl (nI_i1 k) rfl (L' := [(0, .ref (a 0)), (1, .int x), (2, .int ((jNet J x k) + (J.2.2.2.2.2 1 k))), (3, .int (nI (k + 1)))]) rfl ?_
        refine V_goto 4 dX2_netOf_32 (by decide) ?_
        rw [show (jNet J x k) + (J.2.2.2.2.2 1 k) = jNet J x (k + 1) by rw [jNet, if_pos zc2]]
        exact ih (k + 1) (by omega) (by omega)

set_option maxRecDepth 100000 in
set_option maxHeartbeats 4000000 in
theorem c_J_netOf (w : vWd) (a : Nat → Nat) (J : JP) (x : Int32) (hJ : okJ J) : Ct w mX2_netOf 2 0 0 [.ref (a 0), .int x] (cJ w a J) (qE (some (.int (jNet J x J.2.1))) (cJ w a J)) := by
  refine Ct.of (L := [(0, .ref (a 0)), (1, .int x)]) (by decide) rfl rfl ?_
  refine V_iconst 0 dX2_netOf_0 (by decide) ?_
  refine V_istore_n dX2_netOf_1 rfl (L' := [(0, .ref (a 0)), (1, .int x), (2, .int 0)]) rfl ?_
  refine V_iconst 0 dX2_netOf_2 (by decide) ?_
  refine V_istore_n dX2_netOf_3 rfl (L' := [(0, .ref (a 0)), (1, .int x), (2, .int 0), (3, .int 0)]) rfl ?_
  exact lp_J_netOf w a J x hJ (J.2.1 + 1) 0 (by omega) (by omega)
