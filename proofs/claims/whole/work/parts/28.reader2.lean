/-! 28: CashDeriver$Reader: words, numbers, amounts -/
theorem stR_pn {T : TP} {P : RP} : (stR T P).2.1 ≤ (stR T P).2.2.1 := by
  unfold stR stE
  generalize sk T (min T.1 600 - P.2.2.1) P.2.2.1 = q
  split
  · split
    · show q ≤ q + 1; omega
    · split
      · show q ≤ q + 1; omega
      · show q ≤ q + _; omega
  · show min T.1 600 ≤ min T.1 600; omega
def wdB (T : TP) (P : RP) (i : Nat) : Bool := decide (P.1 = 2) && (decide (P.2.2.1 - P.2.1 = vLen.getD i 0) && decide (∀ j, j < vLen.getD i 0 → T.2 (P.2.1 + j) = sch i j))
def kdF (T : TP) (P : RP) : Nat → Nat → Int32
  | 0, _ => -1
  | m + 1, k => if wdB T P k = true then nI k else kdF T P m (k + 1)
def rRf (k : Nat) (P : RP) : RP := (P.1, P.2.1, P.2.2.1, P.2.2.2.1, P.2.2.2.2.1, k, P.2.1)
def rAmt (x : Int32) (P : RP) : RP := (P.1, P.2.1, P.2.2.1, P.2.2.2.1, x, P.2.2.2.2.2)
def inb (P : RP) (b : Int32) : Bool × RP := if P.1 = 3 then (if P.2.2.2.1 < b then (true, P) else (false, rRf 2 P)) else (false, rRf 1 P)
def am1 (T : TP) (P : RP) : RP := if P.1 = 5 then stR T P else P
def rAm (T : TP) (P : RP) (lo : Int32) : Bool × RP := if (am1 T P).1 = 3 then (if (am1 T P).2.2.2.1 < lo then (false, rRf 2 (am1 T P)) else (true, stR T (rAmt (if P.1 = 5 then -(am1 T P).2.2.2.1 else (am1 T P).2.2.2.1) (am1 T P)))) else (false, rRf 1 (am1 T P))

set_option maxRecDepth 100000 in
set_option maxHeartbeats 4000000 in
theorem lp_R_isWord (w : vWd) (r : Nat) (t : Nat → Nat) (P : RP) (T : TP) (i : Nat) (hi : i < 8) (hT : T.1 ≤ 640) (hnx : P.2.2.1 ≤ T.1) (hpn : P.2.1 ≤ P.2.2.1) (htk : P.1 = 2) (hln : P.2.2.1 - P.2.1 = vLen.getD i 0) : ∀ (m : Nat) (k : Nat), (vLen.getD i 0 + 1 ≤ k + m) → (k ≤ vLen.getD i 0) → (∀ j, j < k → T.2 (P.2.1 + j) = sch i j) → V w mX4_isWord (vc w 4 0 0 (qE (some (.int (bi (wdB T P i)))) (cR w r t P T))) 0 0 28 [(0, .ref (r)), (1, .ref (w.2.2.1 i)), (2, .int (nI k))] [] (cR w r t P T) := by
  intro m
  induction m with
  | zero =>
    intro k h1 h2 hg
    exact absurd h1 (by omega)
  | succ m ih =>
    intro k h1 h2 hg
    have h8 := s_l8 i hi
    refine V_iload_n dX4_isWord_28 2 rfl ?_
    refine V_aload_n dX4_isWord_29 1 rfl ?_
    refine V_virS hi dX4_isWord_30 lJX4_121 rfl (c_S_length w i hi) rfl rfl rfl ?_
    refine V_icmp_ge_n k (vLen.getD i 0) 65 dX4_isWord_33 (by decide) (by omega) (by omega) (fun zc1 => ?_) (fun zc1 => ?_)
    · refine V_iconst 1 dX4_isWord_65 (by decide) ?_
      exact V_zret dX4_isWord_66 rfl rfl (nb rfl) (nb rfl) ⟨by rw [wdB, decide_eq_true htk, decide_eq_true hln, decide_eq_true (p := ∀ j, j < vLen.getD i 0 → T.2 (P.2.1 + j) = sch i j) (fun j hj => hg j (by omega))]; rfl, rfl⟩
    · refine V_aload_n dX4_isWord_36 0 rfl ?_
      refine V_get dX4_isWord_37 fX4_33 0 rfl rfl ?_
      refine V_aload_n dX4_isWord_40 0 rfl ?_
      refine V_get dX4_isWord_41 fX4_15 0 rfl rfl ?_
      refine V_iload_n dX4_isWord_44 2 rfl ?_
      refine V_iadd dX4_isWord_45 ?_
      refine V_casti (y := nI (P.2.1 + k)) (nI_add P.2.1 k) ?_
      refine V_partR dX4_isWord_46 lX4_126 [rC r (t 0) P] (c_T_signAt w t T (nI (P.2.1 + k)) hT) cR_perm rfl rfl 0 rfl rfl rfl rfl ?_
      refine V_casti (y := T.2 (P.2.1 + k)) (by rw [tSign_n hT (by omega), if_pos (by omega)]) ?_
      refine V_aload_n dX4_isWord_49 1 rfl ?_
      refine V_iload_n dX4_isWord_50 2 rfl ?_
      refine V_virS hi dX4_isWord_51 lJX4_130 rfl (c_S_charAt w i k hi (by omega)) rfl rfl rfl ?_
      refine V_icmp_eq 59 dX4_isWord_54 (by decide) (fun zc2 => ?_) (fun zc2 => ?_)
      · have zn := zc2
        refine V_iinc (nI (k + 1)) dX4_isWord_59 2 rfl (nI_i1 k) rfl (L' := [(0, .ref (r)), (1, .ref (w.2.2.1 i)), (2, .int (nI (k + 1)))]) rfl ?_
        refine V_goto 28 dX4_isWord_62 (by decide) ?_
        refine ih (k + 1) (by omega) (by omega) (fun j hj => ?_)
        by_cases hjk : j < k
        · exact hg j hjk
        · obtain rfl : j = k := by omega
          exact zn
      · have zn := zc2
        refine V_iconst 0 dX4_isWord_57 (by decide) ?_
        exact V_zret dX4_isWord_58 rfl rfl (nb rfl) (nb rfl) ⟨by rw [wdB, decide_eq_false (p := ∀ j, j < vLen.getD i 0 → T.2 (P.2.1 + j) = sch i j) (fun hA => zn (hA k (by omega))), Bool.and_false, Bool.and_false]; rfl, rfl⟩

set_option maxRecDepth 100000 in
set_option maxHeartbeats 4000000 in
theorem c_R_isWord (w : vWd) (r : Nat) (t : Nat → Nat) (P : RP) (T : TP) (i : Nat) (hi : i < 8) (hT : T.1 ≤ 640) (hnx : P.2.2.1 ≤ T.1) (hpn : P.2.1 ≤ P.2.2.1) (htb : P.1 ≤ 5) : Ct w mX4_isWord 4 0 0 [.ref (r), .ref (w.2.2.1 i)] (cR w r t P T) (qE (some (.int (bi (wdB T P i)))) (cR w r t P T)) := by
  refine Ct.of (L := [(0, .ref (r)), (1, .ref (w.2.2.1 i))]) (by decide) rfl rfl ?_
  have h8 := s_l8 i hi
  refine V_aload_n dX4_isWord_0 0 rfl ?_
  refine V_get dX4_isWord_1 fX4_11 0 rfl rfl ?_
  refine V_iconst 2 dX4_isWord_4 (by decide) ?_
  refine V_icmp_ne_n P.1 2 24 dX4_isWord_5 (by decide) (by omega) (by omega) (fun zc1 => ?_) (fun zc1 => ?_)
  · refine V_iconst 0 dX4_isWord_24 (by decide) ?_
    exact V_zret dX4_isWord_25 rfl rfl (nb rfl) (nb rfl) ⟨by rw [wdB]; grind [bi], rfl⟩
  · refine V_aload_n dX4_isWord_8 0 rfl ?_
    refine V_get dX4_isWord_9 fX4_18 0 rfl rfl ?_
    refine V_aload_n dX4_isWord_12 0 rfl ?_
    refine V_get dX4_isWord_13 fX4_15 0 rfl rfl ?_
    refine V_isub dX4_isWord_16 ?_
    refine V_casti (y := nI (P.2.2.1 - P.2.1)) (pk_sub hpn) ?_
    refine V_aload_n dX4_isWord_17 1 rfl ?_
    refine V_virS hi dX4_isWord_18 lJX4_121 rfl (c_S_length w i hi) rfl rfl rfl ?_
    refine V_icmp_eq_n (P.2.2.1 - P.2.1) (vLen.getD i 0) 26 dX4_isWord_21 (by decide) (by omega) (by omega) (fun zc2 => ?_) (fun zc2 => ?_)
    · refine V_iconst 0 dX4_isWord_26 (by decide) ?_
      refine V_istore_n dX4_isWord_27 rfl (L' := [(0, .ref (r)), (1, .ref (w.2.2.1 i)), (2, .int 0)]) rfl ?_
      exact lp_R_isWord w r t P T i hi hT hnx hpn (by omega) (by omega) (vLen.getD i 0 + 1) 0 (by omega) (by omega) (fun j hj => absurd hj (by omega))
    · refine V_iconst 0 dX4_isWord_24 (by decide) ?_
      exact V_zret dX4_isWord_25 rfl rfl (nb rfl) (nb rfl) ⟨by rw [wdB]; grind [bi], rfl⟩

theorem c_R_nameOf0 (w : vWd) : Ct w mX4_nameOf 0 0 0 [.int (nI 0)] [] (qE (some (.ref (w.2.2.1 0))) []) := by
  refine Ct.of (L := [(0, .int (nI 0))]) (by decide) rfl rfl ?_
  refine V_iload_n dX4_nameOf_0 0 rfl ?_
  refine V_tabIn 36 dX4_nameOf_1 (by decide) (by decide) rfl (by decide) ?_
  refine V_ldcS (j := 0) (tx := "cash") dX4_nameOf_36 (by decide +kernel) ?_
  exact V_aret dX4_nameOf_38 rfl (Or.inl ⟨_, rfl⟩) (Or.inr ⟨_, rfl⟩) (nb rfl) (nb rfl) ⟨rfl, rfl⟩
theorem c_R_nameOf1 (w : vWd) : Ct w mX4_nameOf 0 0 0 [.int (nI 1)] [] (qE (some (.ref (w.2.2.1 1))) []) := by
  refine Ct.of (L := [(0, .int (nI 1))]) (by decide) rfl rfl ?_
  refine V_iload_n dX4_nameOf_0 0 rfl ?_
  refine V_tabIn 39 dX4_nameOf_1 (by decide) (by decide) rfl (by decide) ?_
  refine V_ldcS (j := 1) (tx := "work") dX4_nameOf_39 (by decide +kernel) ?_
  exact V_aret dX4_nameOf_41 rfl (Or.inl ⟨_, rfl⟩) (Or.inr ⟨_, rfl⟩) (nb rfl) (nb rfl) ⟨rfl, rfl⟩
theorem c_R_nameOf2 (w : vWd) : Ct w mX4_nameOf 0 0 0 [.int (nI 2)] [] (qE (some (.ref (w.2.2.1 2))) []) := by
  refine Ct.of (L := [(0, .int (nI 2))]) (by decide) rfl rfl ?_
  refine V_iload_n dX4_nameOf_0 0 rfl ?_
  refine V_tabIn 42 dX4_nameOf_1 (by decide) (by decide) rfl (by decide) ?_
  refine V_ldcS (j := 2) (tx := "income") dX4_nameOf_42 (by decide +kernel) ?_
  exact V_aret dX4_nameOf_44 rfl (Or.inl ⟨_, rfl⟩) (Or.inr ⟨_, rfl⟩) (nb rfl) (nb rfl) ⟨rfl, rfl⟩
theorem c_R_nameOf3 (w : vWd) : Ct w mX4_nameOf 0 0 0 [.int (nI 3)] [] (qE (some (.ref (w.2.2.1 3))) []) := by
  refine Ct.of (L := [(0, .int (nI 3))]) (by decide) rfl rfl ?_
  refine V_iload_n dX4_nameOf_0 0 rfl ?_
  refine V_tabIn 45 dX4_nameOf_1 (by decide) (by decide) rfl (by decide) ?_
  refine V_ldcS (j := 3) (tx := "invest") dX4_nameOf_45 (by decide +kernel) ?_
  exact V_aret dX4_nameOf_47 rfl (Or.inl ⟨_, rfl⟩) (Or.inr ⟨_, rfl⟩) (nb rfl) (nb rfl) ⟨rfl, rfl⟩
theorem c_R_nameOf4 (w : vWd) : Ct w mX4_nameOf 0 0 0 [.int (nI 4)] [] (qE (some (.ref (w.2.2.1 4))) []) := by
  refine Ct.of (L := [(0, .int (nI 4))]) (by decide) rfl rfl ?_
  refine V_iload_n dX4_nameOf_0 0 rfl ?_
  refine V_tabIn 48 dX4_nameOf_1 (by decide) (by decide) rfl (by decide) ?_
  refine V_ldcS (j := 4) (tx := "finance") dX4_nameOf_48 (by decide +kernel) ?_
  exact V_aret dX4_nameOf_50 rfl (Or.inl ⟨_, rfl⟩) (Or.inr ⟨_, rfl⟩) (nb rfl) (nb rfl) ⟨rfl, rfl⟩
theorem c_R_nameOf5 (w : vWd) : Ct w mX4_nameOf 0 0 0 [.int (nI 5)] [] (qE (some (.ref (w.2.2.1 5))) []) := by
  refine Ct.of (L := [(0, .int (nI 5))]) (by decide) rfl rfl ?_
  refine V_iload_n dX4_nameOf_0 0 rfl ?_
  refine V_tabOut 51 dX4_nameOf_1 (by decide) (by decide) ?_
  refine V_ldcS (j := 5) (tx := "currency") dX4_nameOf_51 (by decide +kernel) ?_
  exact V_aret dX4_nameOf_53 rfl (Or.inl ⟨_, rfl⟩) (Or.inr ⟨_, rfl⟩) (nb rfl) (nb rfl) ⟨rfl, rfl⟩
theorem c_R_nameOf (w : vWd) (k : Nat) (hk : k < 6) : Ct w mX4_nameOf 0 0 0 [.int (nI k)] [] (qE (some (.ref (w.2.2.1 k))) []) := by
  rcases (show k = 0 ∨ k = 1 ∨ k = 2 ∨ k = 3 ∨ k = 4 ∨ k = 5 by omega) with rfl | rfl | rfl | rfl | rfl | rfl
  · exact c_R_nameOf0 w
  · exact c_R_nameOf1 w
  · exact c_R_nameOf2 w
  · exact c_R_nameOf3 w
  · exact c_R_nameOf4 w
  · exact c_R_nameOf5 w

set_option maxRecDepth 100000 in
set_option maxHeartbeats 4000000 in
theorem lp_R_kind (w : vWd) (r : Nat) (t : Nat → Nat) (P : RP) (T : TP) (hT : T.1 ≤ 640) (hnx : P.2.2.1 ≤ T.1) (hpn : P.2.1 ≤ P.2.2.1) (htb : P.1 ≤ 5) : ∀ (m : Nat) (k : Nat), (7 ≤ k + m) → (k ≤ 6) → V w mX4_kindNamed (vc w 5 0 0 (qE (some (.int (kdF T P (6 - k) k))) (cR w r t P T))) 0 0 2 [(0, .ref (r)), (1, .int (nI k))] [] (cR w r t P T) := by
  intro m
  induction m with
  | zero =>
    intro k h1 h2
    exact absurd h1 (by omega)
  | succ m ih =>
    intro k h1 h2
    refine V_iload_n dX4_kindNamed_2 1 rfl ?_
    refine V_bipush 6 dX4_kindNamed_3 (by decide) ?_
    refine V_icmp_ge_n k 6 27 dX4_kindNamed_5 (by decide) (by omega) (by omega) (fun zc1 => ?_) (fun zc1 => ?_)
    · refine V_iconst (-1) dX4_kindNamed_27 (by decide) ?_
      exact V_iret dX4_kindNamed_28 rfl (nb rfl) (nb rfl) ⟨by rw [show 6 - k = 0 by omega]; rfl, rfl⟩
    · refine V_aload_n dX4_kindNamed_8 0 rfl ?_
      refine V_iload_n dX4_kindNamed_9 1 rfl ?_
      refine V_purS dX4_kindNamed_10 lX4_105 (c_R_nameOf w k (by omega)) rfl rfl rfl ?_
      refine V_selfR dX4_kindNamed_13 lX4_47 (c_R_isWord w r t P T k (by omega) hT hnx hpn htb) rfl rfl 0 rfl rfl rfl rfl ?_
      refine V_ifeq_b 21 dX4_kindNamed_16 (by decide) (fun zc2 => ?_) (fun zc2 => ?_)
      · have zk := zc2
        refine V_iinc (nI (k + 1)) dX4_kindNamed_21 1 rfl (nI_i1 k) rfl (L' := [(0, .ref (r)), (1, .int (nI (k + 1)))]) rfl ?_
        refine V_goto 2 dX4_kindNamed_24 (by decide) ?_
        rw [show kdF T P (6 - k) k = kdF T P (6 - (k + 1)) (k + 1) by rw [show 6 - k = 6 - (k + 1) + 1 by omega, kdF, if_neg (by rw [zk]; decide)]]
        exact ih (k + 1) (by omega) (by omega)
      · have zk := zc2
        refine V_iload_n dX4_kindNamed_19 1 rfl ?_
        exact V_iret dX4_kindNamed_20 rfl (nb rfl) (nb rfl) ⟨by rw [show 6 - k = 6 - (k + 1) + 1 by omega, kdF, if_pos zk], rfl⟩

set_option maxRecDepth 100000 in
set_option maxHeartbeats 4000000 in
theorem c_R_kindNamed (w : vWd) (r : Nat) (t : Nat → Nat) (P : RP) (T : TP) (hT : T.1 ≤ 640) (hnx : P.2.2.1 ≤ T.1) (hpn : P.2.1 ≤ P.2.2.1) (htb : P.1 ≤ 5) : Ct w mX4_kindNamed 5 0 0 [.ref (r)] (cR w r t P T) (qE (some (.int (kdF T P 6 0))) (cR w r t P T)) := by
  refine Ct.of (L := [(0, .ref (r))]) (by decide) rfl rfl ?_
  refine V_iconst 0 dX4_kindNamed_0 (by decide) ?_
  refine V_istore_n dX4_kindNamed_1 rfl (L' := [(0, .ref (r)), (1, .int 0)]) rfl ?_
  exact lp_R_kind w r t P T hT hnx hpn htb 7 0 (by omega) (by omega)

set_option maxRecDepth 100000 in
set_option maxHeartbeats 4000000 in
theorem c_R_refuse (w : vWd) (r : Nat) (t : Nat → Nat) (P : RP) (T : TP) (k : Nat) : Ct w mX4_refuse 0 0 0 [.ref (r), .int (nI k)] (cR w r t P T) (qE (some (.int 0)) (cR w r t (rRf k P) T)) := by
  refine Ct.of (L := [(0, .ref (r)), (1, .int (nI k))]) (by decide) rfl rfl ?_
  refine V_aload_n dX4_refuse_0 0 rfl ?_
  refine V_iload_n dX4_refuse_1 1 rfl ?_
  refine V_put dX4_refuse_2 pX4_27 0 rfl rfl rfl rfl (ws' := cR w r t (P.1, P.2.1, P.2.2.1, P.2.2.2.1, P.2.2.2.2.1, k, P.2.2.2.2.2.2) T) rfl ?_
  refine V_aload_n dX4_refuse_5 0 rfl ?_
  refine V_aload_n dX4_refuse_6 0 rfl ?_
  refine V_get dX4_refuse_7 fX4_15 0 rfl rfl ?_
  refine V_put dX4_refuse_10 pX4_30 0 rfl rfl rfl rfl (ws' := cR w r t (P.1, P.2.1, P.2.2.1, P.2.2.2.1, P.2.2.2.2.1, k, P.2.1) T) rfl ?_
  refine V_iconst 0 dX4_refuse_13 (by decide) ?_
  exact V_zret dX4_refuse_14 rfl rfl (nb rfl) (nb rfl) ⟨rfl, rfl⟩

set_option maxRecDepth 100000 in
set_option maxHeartbeats 4000000 in
theorem c_R_isNumberBelow (w : vWd) (r : Nat) (t : Nat → Nat) (P : RP) (T : TP) (b : Int32) (htb : P.1 ≤ 5) : Ct w mX4_isNumberBelow 1 0 0 [.ref (r), .int b] (cR w r t P T) (qE (some (.int (bi (inb P b).1))) (cR w r t ((inb P b).2) T)) := by
  refine Ct.of (L := [(0, .ref (r)), (1, .int b)]) (by decide) rfl rfl ?_
  refine V_aload_n dX4_isNumberBelow_0 0 rfl ?_
  refine V_get dX4_isNumberBelow_1 fX4_11 0 rfl rfl ?_
  refine V_iconst 3 dX4_isNumberBelow_4 (by decide) ?_
  refine V_icmp_eq_n P.1 3 14 dX4_isNumberBelow_5 (by decide) (by omega) (by omega) (fun zc1 => ?_) (fun zc1 => ?_)
  · refine V_aload_n dX4_isNumberBelow_14 0 rfl ?_
    refine V_get dX4_isNumberBelow_15 fX4_21 0 rfl rfl ?_
    refine V_iload_n dX4_isNumberBelow_18 1 rfl ?_
    refine V_icmp_lt 30 dX4_isNumberBelow_19 (by decide) (fun zc2 => ?_) (fun zc2 => ?_)
    · refine V_iconst 1 dX4_isNumberBelow_30 (by decide) ?_
      refine V_goto 35 dX4_isNumberBelow_31 (by decide) ?_
      refine V_zret dX4_isNumberBelow_35 rfl rfl (nb rfl) (nb rfl) ?_
      have hr : inb P b = (true, P) := by grind [inb]
      exact ⟨by rw [hr] <;> rfl, by rw [hr] <;> rfl⟩
    · refine V_aload_n dX4_isNumberBelow_22 0 rfl ?_
      refine V_iconst 2 dX4_isNumberBelow_23 (by decide) ?_
      refine V_selfE (ws' := cR w r t (rRf 2 P) T) dX4_isNumberBelow_24 lX4_66 (c_R_refuse w r t P T 2) rfl rfl 0 rfl rfl rfl rfl ?_
      refine V_if_eq_t 34 dX4_isNumberBelow_27 (by decide) (by decide) ?_
      refine V_iconst 0 dX4_isNumberBelow_34 (by decide) ?_
      refine V_zret dX4_isNumberBelow_35 rfl rfl (nb rfl) (nb rfl) ?_
      have hr : inb P b = (false, (rRf 2 P)) := by grind [inb]
      exact ⟨by rw [hr] <;> rfl, by rw [hr] <;> rfl⟩
  · refine V_aload_n dX4_isNumberBelow_8 0 rfl ?_
    refine V_iconst 1 dX4_isNumberBelow_9 (by decide) ?_
    refine V_selfE (ws' := cR w r t (rRf 1 P) T) dX4_isNumberBelow_10 lX4_66 (c_R_refuse w r t P T 1) rfl rfl 0 rfl rfl rfl rfl ?_
    refine V_zret dX4_isNumberBelow_13 rfl rfl (nb rfl) (nb rfl) ?_
    have hr : inb P b = (false, (rRf 1 P)) := by grind [inb]
    exact ⟨by rw [hr] <;> rfl, by rw [hr] <;> rfl⟩

set_option maxRecDepth 100000 in
set_option maxHeartbeats 4000000 in
theorem c_R_readAmount (w : vWd) (r : Nat) (t : Nat → Nat) (P : RP) (T : TP) (lo : Int32) (hT : T.1 ≤ 640) (hnx : P.2.2.1 ≤ T.1) (htb : P.1 ≤ 5) : Ct w mX4_readAmount 3 0 0 [.ref (r), .int lo] (cR w r t P T) (qE (some (.int (bi (rAm T P lo).1))) (cR w r t ((rAm T P lo).2) T)) := by
  refine Ct.of (L := [(0, .ref (r)), (1, .int lo)]) (by decide) rfl rfl ?_
  refine V_aload_n dX4_readAmount_0 0 rfl ?_
  refine V_get dX4_readAmount_1 fX4_11 0 rfl rfl ?_
  refine V_iconst 5 dX4_readAmount_4 (by decide) ?_
  refine V_icmp_ne_n P.1 5 12 dX4_readAmount_5 (by decide) (by omega) (by omega) (fun zc1 => ?_) (fun zc1 => ?_)
  · refine V_iconst 0 dX4_readAmount_12 (by decide) ?_
    refine V_istore_n dX4_readAmount_13 rfl (L' := [(0, .ref (r)), (1, .int lo), (2, .int 0)]) rfl ?_
    refine V_iload_n dX4_readAmount_14 2 rfl ?_
    refine V_if_eq_t 22 dX4_readAmount_15 (by decide) (by decide) ?_
    have hs1 : (stR T P).1 ≤ 5 := stR_nx.2.2
    have hs2 : (stR T P).2.2.1 ≤ T.1 := stR_nx.1
    refine V_aload_n dX4_readAmount_22 0 rfl ?_
    refine V_get dX4_readAmount_23 fX4_11 0 rfl rfl ?_
    refine V_iconst 3 dX4_readAmount_26 (by decide) ?_
    refine V_icmp_eq_n P.1 3 36 dX4_readAmount_27 (by decide) (by omega) (by omega) (fun zc3 => ?_) (fun zc3 => ?_)
    · refine V_aload_n dX4_readAmount_36 0 rfl ?_
      refine V_get dX4_readAmount_37 fX4_21 0 rfl rfl ?_
      refine V_iload_n dX4_readAmount_40 1 rfl ?_
      refine V_icmp_ge 50 dX4_readAmount_41 (by decide) (fun zc4 => ?_) (fun zc4 => ?_)
      · refine V_aload_n dX4_readAmount_50 0 rfl ?_
        refine V_iload_n dX4_readAmount_51 2 rfl ?_
        refine V_if_eq_t 63 dX4_readAmount_52 (by decide) (by decide) ?_
        refine V_aload_n dX4_readAmount_63 0 rfl ?_
        refine V_get dX4_readAmount_64 fX4_21 0 rfl rfl ?_
        refine V_put dX4_readAmount_67 pX4_24 0 rfl rfl rfl rfl (ws' := cR w r t (P.1, P.2.1, P.2.2.1, P.2.2.2.1, P.2.2.2.1, P.2.2.2.2.2.1, P.2.2.2.2.2.2) T) rfl ?_
        refine V_aload_n dX4_readAmount_70 0 rfl ?_
        refine V_selfE (ws' := cR w r t (stR T (P.1, P.2.1, P.2.2.1, P.2.2.2.1, P.2.2.2.1, P.2.2.2.2.2.1, P.2.2.2.2.2.2)) T) dX4_readAmount_71 lX4_42 (c_R_step w r t (P.1, P.2.1, P.2.2.1, P.2.2.2.1, P.2.2.2.1, P.2.2.2.2.2.1, P.2.2.2.2.2.2) T hT hnx) rfl rfl 0 rfl rfl rfl rfl ?_
        refine V_iconst 1 dX4_readAmount_74 (by decide) ?_
        refine V_zret dX4_readAmount_75 rfl rfl (nb rfl) (nb rfl) ?_
        have hr : rAm T P lo = (true, (stR T (P.1, P.2.1, P.2.2.1, P.2.2.2.1, P.2.2.2.1, P.2.2.2.2.2.1, P.2.2.2.2.2.2))) := by grind [rAm, am1, rAmt]
        exact ⟨by rw [hr] <;> rfl, by rw [hr] <;> rfl⟩
      · refine V_aload_n dX4_readAmount_44 0 rfl ?_
        refine V_iconst 2 dX4_readAmount_45 (by decide) ?_
        refine V_selfE (ws' := cR w r t (rRf 2 P) T) dX4_readAmount_46 lX4_66 (c_R_refuse w r t P T 2) rfl rfl 0 rfl rfl rfl rfl ?_
        refine V_zret dX4_readAmount_49 rfl rfl (nb rfl) (nb rfl) ?_
        have hr : rAm T P lo = (false, (rRf 2 P)) := by grind [rAm, am1, rAmt]
        exact ⟨by rw [hr] <;> rfl, by rw [hr] <;> rfl⟩
    · refine V_aload_n dX4_readAmount_30 0 rfl ?_
      refine V_iconst 1 dX4_readAmount_31 (by decide) ?_
      refine V_selfE (ws' := cR w r t (rRf 1 P) T) dX4_readAmount_32 lX4_66 (c_R_refuse w r t P T 1) rfl rfl 0 rfl rfl rfl rfl ?_
      refine V_zret dX4_readAmount_35 rfl rfl (nb rfl) (nb rfl) ?_
      have hr : rAm T P lo = (false, (rRf 1 P)) := by grind [rAm, am1, rAmt]
      exact ⟨by rw [hr] <;> rfl, by rw [hr] <;> rfl⟩
  · refine V_iconst 1 dX4_readAmount_8 (by decide) ?_
    refine V_goto 13 dX4_readAmount_9 (by decide) ?_
    refine V_istore_n dX4_readAmount_13 rfl (L' := [(0, .ref (r)), (1, .int lo), (2, .int 1)]) rfl ?_
    refine V_iload_n dX4_readAmount_14 2 rfl ?_
    refine V_if_eq_f 22 dX4_readAmount_15 (by decide) (by decide) ?_
    refine V_aload_n dX4_readAmount_18 0 rfl ?_
    refine V_selfE (ws' := cR w r t (stR T P) T) dX4_readAmount_19 lX4_42 (c_R_step w r t P T hT hnx) rfl rfl 0 rfl rfl rfl rfl ?_
    have hs1 : (stR T P).1 ≤ 5 := stR_nx.2.2
    have hs2 : (stR T P).2.2.1 ≤ T.1 := stR_nx.1
    refine V_aload_n dX4_readAmount_22 0 rfl ?_
    refine V_get dX4_readAmount_23 fX4_11 0 rfl rfl ?_
    refine V_iconst 3 dX4_readAmount_26 (by decide) ?_
    refine V_icmp_eq_n ((stR T P).1) 3 36 dX4_readAmount_27 (by decide) (by omega) (by omega) (fun zc7 => ?_) (fun zc7 => ?_)
    · refine V_aload_n dX4_readAmount_36 0 rfl ?_
      refine V_get dX4_readAmount_37 fX4_21 0 rfl rfl ?_
      refine V_iload_n dX4_readAmount_40 1 rfl ?_
      refine V_icmp_ge 50 dX4_readAmount_41 (by decide) (fun zc8 => ?_) (fun zc8 => ?_)
      · refine V_aload_n dX4_readAmount_50 0 rfl ?_
        refine V_iload_n dX4_readAmount_51 2 rfl ?_
        refine V_if_eq_f 63 dX4_readAmount_52 (by decide) (by decide) ?_
        refine V_aload_n dX4_readAmount_55 0 rfl ?_
        refine V_get dX4_readAmount_56 fX4_21 0 rfl rfl ?_
        refine V_ineg dX4_readAmount_59 ?_
        refine V_goto 67 dX4_readAmount_60 (by decide) ?_
        refine V_put dX4_readAmount_67 pX4_24 0 rfl rfl rfl rfl (ws' := cR w r t ((stR T P).1, (stR T P).2.1, (stR T P).2.2.1, (stR T P).2.2.2.1, -((stR T P).2.2.2.1), (stR T P).2.2.2.2.2.1, (stR T P).2.2.2.2.2.2) T) rfl ?_
        refine V_aload_n dX4_readAmount_70 0 rfl ?_
        refine V_selfE (ws' := cR w r t (stR T ((stR T P).1, (stR T P).2.1, (stR T P).2.2.1, (stR T P).2.2.2.1, -((stR T P).2.2.2.1), (stR T P).2.2.2.2.2.1, (stR T P).2.2.2.2.2.2)) T) dX4_readAmount_71 lX4_42 (c_R_step w r t ((stR T P).1, (stR T P).2.1, (stR T P).2.2.1, (stR T P).2.2.2.1, -((stR T P).2.2.2.1), (stR T P).2.2.2.2.2.1, (stR T P).2.2.2.2.2.2) T hT hs2) rfl rfl 0 rfl rfl rfl rfl ?_
        refine V_iconst 1 dX4_readAmount_74 (by decide) ?_
        refine V_zret dX4_readAmount_75 rfl rfl (nb rfl) (nb rfl) ?_
        have hr : rAm T P lo = (true, (stR T ((stR T P).1, (stR T P).2.1, (stR T P).2.2.1, (stR T P).2.2.2.1, -((stR T P).2.2.2.1), (stR T P).2.2.2.2.2.1, (stR T P).2.2.2.2.2.2))) := by grind [rAm, am1, rAmt]
        exact ⟨by rw [hr] <;> rfl, by rw [hr] <;> rfl⟩
      · refine V_aload_n dX4_readAmount_44 0 rfl ?_
        refine V_iconst 2 dX4_readAmount_45 (by decide) ?_
        refine V_selfE (ws' := cR w r t (rRf 2 (stR T P)) T) dX4_readAmount_46 lX4_66 (c_R_refuse w r t (stR T P) T 2) rfl rfl 0 rfl rfl rfl rfl ?_
        refine V_zret dX4_readAmount_49 rfl rfl (nb rfl) (nb rfl) ?_
        have hr : rAm T P lo = (false, (rRf 2 (stR T P))) := by grind [rAm, am1, rAmt]
        exact ⟨by rw [hr] <;> rfl, by rw [hr] <;> rfl⟩
    · refine V_aload_n dX4_readAmount_30 0 rfl ?_
      refine V_iconst 1 dX4_readAmount_31 (by decide) ?_
      refine V_selfE (ws' := cR w r t (rRf 1 (stR T P)) T) dX4_readAmount_32 lX4_66 (c_R_refuse w r t (stR T P) T 1) rfl rfl 0 rfl rfl rfl rfl ?_
      refine V_zret dX4_readAmount_35 rfl rfl (nb rfl) (nb rfl) ?_
      have hr : rAm T P lo = (false, (rRf 1 (stR T P))) := by grind [rAm, am1, rAmt]
      exact ⟨by rw [hr] <;> rfl, by rw [hr] <;> rfl⟩

set_option maxRecDepth 100000 in
set_option maxHeartbeats 4000000 in
theorem c_R_faultKind (w : vWd) (r : Nat) (t : Nat → Nat) (P : RP) (T : TP)  : Ct w mX4_faultKind 0 0 0 [.ref (r)] (cR w r t P T) (qE (some (.int (nI P.2.2.2.2.2.1))) (cR w r t P T)) := by
  refine Ct.of (L := [(0, .ref (r))]) (by decide) rfl rfl ?_
  refine V_aload_n dX4_faultKind_0 0 rfl ?_
  refine V_get dX4_faultKind_1 fX4_27 0 rfl rfl ?_
  exact V_iret dX4_faultKind_4 rfl (nb rfl) (nb rfl) ⟨rfl, rfl⟩

set_option maxRecDepth 100000 in
set_option maxHeartbeats 4000000 in
theorem c_R_faultPlace (w : vWd) (r : Nat) (t : Nat → Nat) (P : RP) (T : TP)  : Ct w mX4_faultPlace 0 0 0 [.ref (r)] (cR w r t P T) (qE (some (.int (nI P.2.2.2.2.2.2))) (cR w r t P T)) := by
  refine Ct.of (L := [(0, .ref (r))]) (by decide) rfl rfl ?_
  refine V_aload_n dX4_faultPlace_0 0 rfl ?_
  refine V_get dX4_faultPlace_1 fX4_30 0 rfl rfl ?_
  exact V_iret dX4_faultPlace_4 rfl (nb rfl) (nb rfl) ⟨rfl, rfl⟩
