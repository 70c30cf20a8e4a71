/-! 16: the reference: what it reads of its row -/
abbrev ZT : Type := Nat × Nat × Nat × Nat × Nat × Int32 × Nat × Nat × Int64 × Int32
def cG (w : vWd) (a : Nat → Nat) (th : Int32) (Z : ZT) (sn gs ps : Nat) (X : Nat → Nat → Int32) : va_W :=
  cM w a th Z.1 Z.2.1 Z.2.2.1 Z.2.2.2.1 Z.2.2.2.2.1 Z.2.2.2.2.2.1 Z.2.2.2.2.2.2.1 Z.2.2.2.2.2.2.2.1 Z.2.2.2.2.2.2.2.2.1 sn Z.2.2.2.2.2.2.2.2.2 gs ps X
/-- a row of numbers is a book: na accounts, nj journals of nl lines, which name accounts ac -/
def okN (N : Nat → Int32) (na nj : Nat) (nl : Nat → Nat) (ac : Nat → Nat → Nat) : Prop :=
  N 0 = nI na ∧ N 1 = nI nj ∧ na ≤ 12 ∧ nj ≤ 30 ∧ (∀ j, j < nj → N (50 + 15 * j + 2) = nI (nl j) ∧ nl j ≤ 6) ∧ ∀ j k, j < nj → k < nl j → N (50 + 15 * j + (3 + 2 * k)) = nI (ac j k) ∧ ac j k < na
def mAm (N : Nat → Int32) (j k : Nat) : Int32 := N (50 + 15 * j + (3 + 2 * k + 1))
def mCnt (N : Nat → Int32) (j : Nat) (f t : Int32) : Bool := decide (N (50 + 15 * j + 1) = 0) && isInB (N (50 + 15 * j + 0)) f t
def mNet (N : Nat → Int32) (j : Nat) (x : Int32) : Nat → Int32
  | 0 => 0
  | k + 1 => if N (50 + 15 * j + (3 + 2 * k)) = x then mNet N j x k + mAm N j k else mNet N j x k
def mMv (N : Nat → Int32) (nl : Nat → Nat) (x f t : Int32) : Nat → Int32
  | 0 => 0
  | j + 1 => if mCnt N j f t then mMv N nl x f t j + mNet N j x (nl j) else mMv N nl x f t j
def mBal (N : Nat → Int32) (nl : Nat → Nat) (nj i : Nat) (t : Int32) : Int32 := N (2 + 4 * i + 1) + mMv N nl (nI i) 0 t nj
def mRes (N : Nat → Int32) (nl : Nat → Nat) (nj i : Nat) : Int32 := if N (2 + 4 * i + 2) = 0 then 0 else N (2 + 4 * i + 3) - mBal N nl nj i 20
theorem isIn_n {n : Nat} {lim x : Int32} (hn : n ≤ 30) (hl : nI n ≤ lim) : isInB x 0 (nI n - 1) = inL lim n x := by
  have h1 : (nI n - 1).toInt = (n : Int) - 1 := pk_sub_toInt (b := 1) (by omega) (by omega)
  have h2 : (nI n).toInt = (n : Int) := nI_toInt (by omega)
  rw [Int32.le_iff_toInt_le, h2] at hl
  simp only [isInB, inL, Int32.le_iff_toInt_le, Int32.lt_iff_toInt_lt, h1, h2, Int32.toInt_zero]
  by_cases c1 : 0 ≤ x.toInt
  · by_cases c2 : x.toInt < n
    · rw [decide_eq_true c1, decide_eq_true (show x.toInt ≤ (n : Int) - 1 by omega), decide_eq_false (show ¬ x.toInt < 0 by omega), decide_eq_true c2, decide_eq_true (show x.toInt < lim.toInt by omega)]; rfl
    · rw [decide_eq_false (show ¬ x.toInt ≤ (n : Int) - 1 by omega), decide_eq_false c2]; simp
  · rw [decide_eq_false c1, decide_eq_true (show x.toInt < 0 by omega)]; simp

set_option maxRecDepth 100000 in
set_option maxHeartbeats 4000000 in
theorem e_M_isAccount (w : vWd) (a : Nat → Nat) (th : Int32) (Z : ZT) (sn gs ps : Nat) (X : Nat → Nat → Int32) (x : Int32) (na nj : Nat) (nl : Nat → Nat) (ac : Nat → Nat → Nat) (hN : okN (X 11) na nj nl ac) : Ct w mX8_isAccount 1 0 0 [.ref (a 0), .int x] (cG w a th Z sn gs ps X) (qE (some (.int (bi (inA na x)))) (cG w a th Z sn gs ps X)) := by
  refine Ct.of (L := [(0, .ref (a 0)), (1, .int x)]) (by decide) rfl rfl ?_
  obtain ⟨hn0, hn1, hna, hnj, hnl, hac⟩ := id hN
  refine V_iload_n dX8_isAccount_0 1 rfl ?_
  refine V_iconst 0 dX8_isAccount_1 (by decide) ?_
  refine V_aload_n dX8_isAccount_2 0 rfl ?_
  refine V_get dX8_isAccount_3 fX8_76 0 rfl rfl ?_
  refine V_iconst 0 dX8_isAccount_6 (by decide) ?_
  refine V_iald dX8_isAccount_7 2 rfl rfl 0 rfl (by omega) ?_
  refine V_casti (y := nI na) hn0 ?_
  refine V_iconst 1 dX8_isAccount_8 (by decide) ?_
  refine V_isub dX8_isAccount_9 ?_
  refine V_casti (y := nI na - 1) rfl ?_
  refine V_purS dX8_isAccount_10 lX8_112 (c_M_isIn w x 0 (nI na - 1)) rfl rfl rfl ?_
  exact V_bret dX8_isAccount_13 rfl (nb rfl) (nb rfl) ⟨by rw [isIn_n (lim := 12) (by omega) (nI_le (b := 12) hna (by omega))], rfl⟩

set_option maxRecDepth 100000 in
set_option maxHeartbeats 4000000 in
theorem e_M_isJournal (w : vWd) (a : Nat → Nat) (th : Int32) (Z : ZT) (sn gs ps : Nat) (X : Nat → Nat → Int32) (x : Int32) (na nj : Nat) (nl : Nat → Nat) (ac : Nat → Nat → Nat) (hN : okN (X 11) na nj nl ac) : Ct w mX8_isJournal 1 0 0 [.ref (a 0), .int x] (cG w a th Z sn gs ps X) (qE (some (.int (bi (inR nj x)))) (cG w a th Z sn gs ps X)) := by
  refine Ct.of (L := [(0, .ref (a 0)), (1, .int x)]) (by decide) rfl rfl ?_
  obtain ⟨hn0, hn1, hna, hnj, hnl, hac⟩ := id hN
  refine V_iload_n dX8_isJournal_0 1 rfl ?_
  refine V_iconst 0 dX8_isJournal_1 (by decide) ?_
  refine V_aload_n dX8_isJournal_2 0 rfl ?_
  refine V_get dX8_isJournal_3 fX8_76 0 rfl rfl ?_
  refine V_iconst 1 dX8_isJournal_6 (by decide) ?_
  refine V_iald dX8_isJournal_7 2 rfl rfl 1 rfl (by omega) ?_
  refine V_casti (y := nI nj) hn1 ?_
  refine V_iconst 1 dX8_isJournal_8 (by decide) ?_
  refine V_isub dX8_isJournal_9 ?_
  refine V_casti (y := nI nj - 1) rfl ?_
  refine V_purS dX8_isJournal_10 lX8_112 (c_M_isIn w x 0 (nI nj - 1)) rfl rfl rfl ?_
  exact V_bret dX8_isJournal_13 rfl (nb rfl) (nb rfl) ⟨by rw [isIn_n (lim := 30) (by omega) (nI_le (b := 30) hnj (by omega))], rfl⟩

set_option maxRecDepth 100000 in
set_option maxHeartbeats 4000000 in
theorem e_M_its (w : vWd) (a : Nat → Nat) (th : Int32) (Z : ZT) (sn gs ps : Nat) (X : Nat → Nat → Int32) (i k : Nat) (hb : 2 + 4 * i + k < 500) : Ct w mX8_its 0 0 0 [.ref (a 0), .int (nI i), .int (nI k)] (cG w a th Z sn gs ps X) (qE (some (.int (X 11 (2 + 4 * i + k)))) (cG w a th Z sn gs ps X)) := by
  refine Ct.of (L := [(0, .ref (a 0)), (1, .int (nI i)), (2, .int (nI k))]) (by decide) rfl rfl ?_
  refine V_aload_n dX8_its_0 0 rfl ?_
  refine V_get dX8_its_1 fX8_76 0 rfl rfl ?_
  refine V_iconst 2 dX8_its_4 (by decide) ?_
  refine V_iconst 4 dX8_its_5 (by decide) ?_
  refine V_iload_n dX8_its_6 1 rfl ?_
  refine V_imul dX8_its_7 ?_
  refine V_casti (y := nI (4 * i)) (pk_mul 4 i) ?_
  refine V_iadd dX8_its_8 ?_
  refine V_casti (y := nI (2 + (4 * i))) (nI_add 2 (4 * i)) ?_
  refine V_iload_n dX8_its_9 2 rfl ?_
  refine V_iadd dX8_its_10 ?_
  refine V_casti (y := nI ((2 + (4 * i)) + k)) (nI_add (2 + (4 * i)) k) ?_
  refine V_iald dX8_its_11 2 rfl rfl ((2 + (4 * i)) + k) rfl (by omega) ?_
  exact V_iret dX8_its_12 rfl (nb rfl) (nb rfl) ⟨rfl, rfl⟩

set_option maxRecDepth 100000 in
set_option maxHeartbeats 4000000 in
theorem e_M_kindOf (w : vWd) (a : Nat → Nat) (th : Int32) (Z : ZT) (sn gs ps : Nat) (X : Nat → Nat → Int32) (i : Nat) (hb : 2 + 4 * i < 500) : Ct w mX8_kindOf 1 0 0 [.ref (a 0), .int (nI i)] (cG w a th Z sn gs ps X) (qE (some (.int (X 11 (2 + 4 * i)))) (cG w a th Z sn gs ps X)) := by
  refine Ct.of (L := [(0, .ref (a 0)), (1, .int (nI i))]) (by decide) rfl rfl ?_
  refine V_aload_n dX8_kindOf_0 0 rfl ?_
  refine V_iload_n dX8_kindOf_1 1 rfl ?_
  refine V_iconst 0 dX8_kindOf_2 (by decide) ?_
  refine V_selfR dX8_kindOf_3 lX8_163 (e_M_its w a th Z sn gs ps X i 0 (by omega)) rfl rfl 0 rfl rfl rfl rfl ?_
  exact V_iret dX8_kindOf_6 rfl (nb rfl) (nb rfl) ⟨rfl, rfl⟩

set_option maxRecDepth 100000 in
set_option maxHeartbeats 4000000 in
theorem e_M_told (w : vWd) (a : Nat → Nat) (th : Int32) (Z : ZT) (sn gs ps : Nat) (X : Nat → Nat → Int32) (j k : Nat) (hb : 50 + 15 * j + k < 500) : Ct w mX8_told 0 0 0 [.ref (a 0), .int (nI j), .int (nI k)] (cG w a th Z sn gs ps X) (qE (some (.int (X 11 (50 + 15 * j + k)))) (cG w a th Z sn gs ps X)) := by
  refine Ct.of (L := [(0, .ref (a 0)), (1, .int (nI j)), (2, .int (nI k))]) (by decide) rfl rfl ?_
  refine V_aload_n dX8_told_0 0 rfl ?_
  refine V_get dX8_told_1 fX8_76 0 rfl rfl ?_
  refine V_bipush 50 dX8_told_4 (by decide) ?_
  refine V_bipush 15 dX8_told_6 (by decide) ?_
  refine V_iload_n dX8_told_8 1 rfl ?_
  refine V_imul dX8_told_9 ?_
  refine V_casti (y := nI (15 * j)) (pk_mul 15 j) ?_
  refine V_iadd dX8_told_10 ?_
  refine V_casti (y := nI (50 + (15 * j))) (nI_add 50 (15 * j)) ?_
  refine V_iload_n dX8_told_11 2 rfl ?_
  refine V_iadd dX8_told_12 ?_
  refine V_casti (y := nI ((50 + (15 * j)) + k)) (nI_add (50 + (15 * j)) k) ?_
  refine V_iald dX8_told_13 2 rfl rfl ((50 + (15 * j)) + k) rfl (by omega) ?_
  exact V_iret dX8_told_14 rfl (nb rfl) (nb rfl) ⟨rfl, rfl⟩

set_option maxRecDepth 100000 in
set_option maxHeartbeats 4000000 in
theorem e_M_lineOf (w : vWd) (a : Nat → Nat) (th : Int32) (Z : ZT) (sn gs ps : Nat) (X : Nat → Nat → Int32) (j k : Nat) (hb : 50 + 15 * j + (3 + 2 * k) < 500) : Ct w mX8_lineOf 1 0 0 [.ref (a 0), .int (nI j), .int (nI k)] (cG w a th Z sn gs ps X) (qE (some (.int (X 11 (50 + 15 * j + (3 + 2 * k))))) (cG w a th Z sn gs ps X)) := by
  refine Ct.of (L := [(0, .ref (a 0)), (1, .int (nI j)), (2, .int (nI k))]) (by decide) rfl rfl ?_
  refine V_aload_n dX8_lineOf_0 0 rfl ?_
  refine V_iload_n dX8_lineOf_1 1 rfl ?_
  refine V_iconst 3 dX8_lineOf_2 (by decide) ?_
  refine V_iconst 2 dX8_lineOf_3 (by decide) ?_
  refine V_iload_n dX8_lineOf_4 2 rfl ?_
  refine V_imul dX8_lineOf_5 ?_
  refine V_casti (y := nI (2 * k)) (pk_mul 2 k) ?_
  refine V_iadd dX8_lineOf_6 ?_
  refine V_casti (y := nI (3 + (2 * k))) (nI_add 3 (2 * k)) ?_
  refine V_selfR dX8_lineOf_7 lX8_167 (e_M_told w a th Z sn gs ps X j (3 + (2 * k)) (by omega)) rfl rfl 0 rfl rfl rfl rfl ?_
  exact V_iret dX8_lineOf_10 rfl (nb rfl) (nb rfl) ⟨rfl, rfl⟩

set_option maxRecDepth 100000 in
set_option maxHeartbeats 4000000 in
theorem e_M_amountOf (w : vWd) (a : Nat → Nat) (th : Int32) (Z : ZT) (sn gs ps : Nat) (X : Nat → Nat → Int32) (j k : Nat) (hb : 50 + 15 * j + (3 + 2 * k + 1) < 500) : Ct w mX8_amountOf 1 0 0 [.ref (a 0), .int (nI j), .int (nI k)] (cG w a th Z sn gs ps X) (qE (some (.int (mAm (X 11) j k))) (cG w a th Z sn gs ps X)) := by
  refine Ct.of (L := [(0, .ref (a 0)), (1, .int (nI j)), (2, .int (nI k))]) (by decide) rfl rfl ?_
  refine V_aload_n dX8_amountOf_0 0 rfl ?_
  refine V_iload_n dX8_amountOf_1 1 rfl ?_
  refine V_iconst 3 dX8_amountOf_2 (by decide) ?_
  refine V_iconst 2 dX8_amountOf_3 (by decide) ?_
  refine V_iload_n dX8_amountOf_4 2 rfl ?_
  refine V_imul dX8_amountOf_5 ?_
  refine V_casti (y := nI (2 * k)) (pk_mul 2 k) ?_
  refine V_iadd dX8_amountOf_6 ?_
  refine V_casti (y := nI (3 + (2 * k))) (nI_add 3 (2 * k)) ?_
  refine V_iconst 1 dX8_amountOf_7 (by decide) ?_
  refine V_iadd dX8_amountOf_8 ?_
  refine V_casti (y := nI ((3 + (2 * k)) + 1)) (nI_add (3 + (2 * k)) 1) ?_
  refine V_selfR dX8_amountOf_9 lX8_167 (e_M_told w a th Z sn gs ps X j ((3 + (2 * k)) + 1) (by omega)) rfl rfl 0 rfl rfl rfl rfl ?_
  exact V_iret dX8_amountOf_12 rfl (nb rfl) (nb rfl) ⟨rfl, rfl⟩

set_option maxRecDepth 100000 in
set_option maxHeartbeats 4000000 in
theorem e_M_counts (w : vWd) (a : Nat → Nat) (th : Int32) (Z : ZT) (sn gs ps : Nat) (X : Nat → Nat → Int32) (j : Nat) (f t : Int32) (hb : 50 + 15 * j + 1 < 500) : Ct w mX8_counts 1 0 0 [.ref (a 0), .int (nI j), .int f, .int t] (cG w a th Z sn gs ps X) (qE (some (.int (bi (mCnt (X 11) j f t)))) (cG w a th Z sn gs ps X)) := by
  refine Ct.of (L := [(0, .ref (a 0)), (1, .int (nI j)), (2, .int f), (3, .int t)]) (by decide) rfl rfl ?_
  refine V_aload_n dX8_counts_0 0 rfl ?_
  refine V_iload_n dX8_counts_1 1 rfl ?_
  refine V_iconst 1 dX8_counts_2 (by decide) ?_
  refine V_selfR dX8_counts_3 lX8_167 (e_M_told w a th Z sn gs ps X j 1 (by omega)) rfl rfl 0 rfl rfl rfl rfl ?_
  refine V_if_ne 27 dX8_counts_6 (by decide) (fun zc1 => ?_) (fun zc1 => ?_)
  · refine V_iconst 0 dX8_counts_27 (by decide) ?_
    exact V_zret dX8_counts_28 rfl rfl (nb rfl) (nb rfl) ⟨by grind [mCnt, bi], rfl⟩
  · refine V_aload_n dX8_counts_9 0 rfl ?_
    refine V_iload_n dX8_counts_10 1 rfl ?_
    refine V_iconst 0 dX8_counts_11 (by decide) ?_
    refine V_selfR dX8_counts_12 lX8_167 (e_M_told w a th Z sn gs ps X j 0 (by omega)) rfl rfl 0 rfl rfl rfl rfl ?_
    refine V_iload_n dX8_counts_15 2 rfl ?_
    refine V_iload_n dX8_counts_16 3 rfl ?_
    refine V_purS dX8_counts_17 lX8_112 (c_M_isIn w (X 11 (50 + 15 * j + 0)) f t) rfl rfl rfl ?_
    refine V_ifeq_b 27 dX8_counts_20 (by decide) (fun zc2 => ?_) (fun zc2 => ?_)
    · refine V_iconst 0 dX8_counts_27 (by decide) ?_
      exact V_zret dX8_counts_28 rfl rfl (nb rfl) (nb rfl) ⟨by grind [mCnt, bi], rfl⟩
    · refine V_iconst 1 dX8_counts_23 (by decide) ?_
      refine V_goto 28 dX8_counts_24 (by decide) ?_
      exact V_zret dX8_counts_28 rfl rfl (nb rfl) (nb rfl) ⟨by grind [mCnt, bi], rfl⟩

set_option maxRecDepth 100000 in
set_option maxHeartbeats 4000000 in
theorem lp_M_moved (w : vWd) (a : Nat → Nat) (th : Int32) (Z : ZT) (sn gs ps : Nat) (X : Nat → Nat → Int32) (j : Nat) (x : Int32) (na nj : Nat) (nl : Nat → Nat) (ac : Nat → Nat → Nat) (hN : okN (X 11) na nj nl ac) (hj : j < nj) : ∀ (m : Nat) (k : Nat), (nl j + 1 ≤ k + m) → (k ≤ nl j) → V w mX8_moved (vc w 2 0 0 (qE (some (.int (mNet (X 11) j x (nl j)))) (cG w a th Z sn gs ps X))) 0 0 5 [(0, .ref (a 0)), (1, .int (nI j)), (2, .int x), (3, .int (mNet (X 11) j x k)), (4, .int (nI k))] [] (cG w a th Z sn gs ps X) := by
  intro m
  induction m with
  | zero =>
    intro k h1 h2
    exact absurd h1 (by omega)
  | succ m ih =>
    intro k h1 h2
    obtain ⟨hn0, hn1, hna, hnj, hnl, hac⟩ := id hN
    obtain ⟨hl1, hl2⟩ := hnl j hj
    refine V_iload dX8_moved_5 4 rfl ?_
    refine V_aload_n dX8_moved_7 0 rfl ?_
    refine V_iload_n dX8_moved_8 1 rfl ?_
    refine V_iconst 2 dX8_moved_9 (by decide) ?_
    refine V_selfR dX8_moved_10 lX8_167 (e_M_told w a th Z sn gs ps X j 2 (by omega)) rfl rfl 0 rfl rfl rfl rfl ?_
    refine V_casti (y := nI (nl j)) hl1 ?_
    refine V_icmp_ge_n k (nl j) 43 dX8_moved_13 (by decide) (by omega) (by omega) (fun zc1 => ?_) (fun zc1 => ?_)
    · refine V_iload_n dX8_moved_43 3 rfl ?_
      exact V_iret dX8_moved_44 rfl (nb rfl) (nb rfl) ⟨by rw [show k = nl j by omega], rfl⟩
    · refine V_aload_n dX8_moved_16 0 rfl ?_
      refine V_iload_n dX8_moved_17 1 rfl ?_
      refine V_iload dX8_moved_18 4 rfl ?_
      refine V_selfR dX8_moved_20 lX8_170 (e_M_lineOf w a th Z sn gs ps X j k (by omega)) rfl rfl 0 rfl rfl rfl rfl ?_
      refine V_iload_n dX8_moved_23 2 rfl ?_
      refine V_icmp_ne 37 dX8_moved_24 (by decide) (fun zc2 => ?_) (fun zc2 => ?_)
      · refine V_iinc (nI (k + 1)) dX8_moved_37 4 rfl (nI_i1 k) rfl (L' := [(0, .ref (a 0)), (1, .int (nI j)), (2, .int x), (3, .int (mNet (X 11) j x k)), (4, .int (nI (k + 1)))]) rfl ?_
        refine V_goto 5 dX8_moved_40 (by decide) ?_
        rw [show mNet (X 11) j x k = mNet (X 11) j x (k + 1) by rw [mNet, if_neg zc2]]
        exact ih (k + 1) (by omega) (by omega)
      · refine V_iload_n dX8_moved_27 3 rfl ?_
        refine V_aload_n dX8_moved_28 0 rfl ?_
        refine V_iload_n dX8_moved_29 1 rfl ?_
        refine V_iload dX8_moved_30 4 rfl ?_
        refine V_selfR dX8_moved_32 lX8_173 (e_M_amountOf w a th Z sn gs ps X j k (by omega)) rfl rfl 0 rfl rfl rfl rfl ?_
        refine V_iadd dX8_moved_35 ?_
        refine V_istore_n dX8_moved_36 rfl (L' := [(0, .ref (a 0)), (1, .int (nI j)), (2, .int x), (3, .int ((mNet (X 11) j x k) + (mAm (X 11) j k))), (4, .int (nI k))]) rfl ?_
        refine V_iinc (nI (k + 1)) dX8_moved_37 4 rfl (nI_i1 k) rfl (L' := [(0, .ref (a 0)), (1, .int (nI j)), (2, .int x), (3, .int ((mNet (X 11) j x k) + (mAm (X 11) j k))), (4, .int (nI (k + 1)))]) rfl ?_
        refine V_goto 5 dX8_moved_40 (by decide) ?_
        rw [show (mNet (X 11) j x k) + (mAm (X 11) j k) = mNet (X 11) j x (k + 1) by rw [mNet, if_pos zc2]]
        exact ih (k + 1) (by omega) (by omega)

set_option maxRecDepth 100000 in
set_option maxHeartbeats 4000000 in
theorem e_M_moved (w : vWd) (a : Nat → Nat) (th : Int32) (Z : ZT) (sn gs ps : Nat) (X : Nat → Nat → Int32) (j : Nat) (x : Int32) (na nj : Nat) (nl : Nat → Nat) (ac : Nat → Nat → Nat) (hN : okN (X 11) na nj nl ac) (hj : j < nj) : Ct w mX8_moved 2 0 0 [.ref (a 0), .int (nI j), .int x] (cG w a th Z sn gs ps X) (qE (some (.int (mNet (X 11) j x (nl j)))) (cG w a th Z sn gs ps X)) := by
  refine Ct.of (L := [(0, .ref (a 0)), (1, .int (nI j)), (2, .int x)]) (by decide) rfl rfl ?_
  refine V_iconst 0 dX8_moved_0 (by decide) ?_
  refine V_istore_n dX8_moved_1 rfl (L' := [(0, .ref (a 0)), (1, .int (nI j)), (2, .int x), (3, .int 0)]) rfl ?_
  refine V_iconst 0 dX8_moved_2 (by decide) ?_
  refine V_istore dX8_moved_3 rfl (L' := [(0, .ref (a 0)), (1, .int (nI j)), (2, .int x), (3, .int 0), (4, .int 0)]) rfl ?_
  exact lp_M_moved w a th Z sn gs ps X j x na nj nl ac hN hj (nl j + 1) 0 (by omega) (by omega)

set_option maxRecDepth 100000 in
set_option maxHeartbeats 4000000 in
theorem lp_M_movedIn (w : vWd) (a : Nat → Nat) (th : Int32) (Z : ZT) (sn gs ps : Nat) (X : Nat → Nat → Int32) (x f t : Int32) (na nj : Nat) (nl : Nat → Nat) (ac : Nat → Nat → Nat) (hN : okN (X 11) na nj nl ac) : ∀ (m : Nat) (j : Nat), (nj + 1 ≤ j + m) → (j ≤ nj) → V w mX8_movedIn (vc w 3 0 0 (qE (some (.int (mMv (X 11) nl x f t nj))) (cG w a th Z sn gs ps X))) 0 0 6 [(0, .ref (a 0)), (1, .int x), (2, .int f), (3, .int t), (4, .int (mMv (X 11) nl x f t j)), (5, .int (nI j))] [] (cG w a th Z sn gs ps X) := by
  intro m
  induction m with
  | zero =>
    intro j h1 h2
    exact absurd h1 (by omega)
  | succ m ih =>
    intro j h1 h2
    obtain ⟨hn0, hn1, hna, hnj, hnl, hac⟩ := id hN
    refine V_iload dX8_movedIn_6 5 rfl ?_
    refine V_aload_n dX8_movedIn_8 0 rfl ?_
    refine V_get dX8_movedIn_9 fX8_76 0 rfl rfl ?_
    refine V_iconst 1 dX8_movedIn_12 (by decide) ?_
    refine V_iald dX8_movedIn_13 2 rfl rfl 1 rfl (by omega) ?_
    refine V_casti (y := nI nj) hn1 ?_
    refine V_icmp_ge_n j nj 46 dX8_movedIn_14 (by decide) (by omega) (by omega) (fun zc1 => ?_) (fun zc1 => ?_)
    · refine V_iload dX8_movedIn_46 4 rfl ?_
      exact V_iret dX8_movedIn_48 rfl (nb rfl) (nb rfl) ⟨by rw [show j = nj by omega], rfl⟩
    · refine V_aload_n dX8_movedIn_17 0 rfl ?_
      refine V_iload dX8_movedIn_18 5 rfl ?_
      refine V_iload_n dX8_movedIn_20 2 rfl ?_
      refine V_iload_n dX8_movedIn_21 3 rfl ?_
      refine V_selfR dX8_movedIn_22 lX8_176 (e_M_counts w a th Z sn gs ps X j f t (by omega)) rfl rfl 0 rfl rfl rfl rfl ?_
      refine V_ifeq_b 40 dX8_movedIn_25 (by decide) (fun zc2 => ?_) (fun zc2 => ?_)
      · refine V_iinc (nI (j + 1)) dX8_movedIn_40 5 rfl (nI_i1 j) rfl (L' := [(0, .ref (a 0)), (1, .int x), (2, .int f), (3, .int t), (4, .int (mMv (X 11) nl x f t j)), (5, .int (nI (j + 1)))]) rfl ?_
        refine V_goto 6 dX8_movedIn_43 (by decide) ?_
        rw [show mMv (X 11) nl x f t j = mMv (X 11) nl x f t (j + 1) by rw [mMv, zc2]; rfl]
        exact ih (j + 1) (by omega) (by omega)
      · refine V_iload dX8_movedIn_28 4 rfl ?_
        refine V_aload_n dX8_movedIn_30 0 rfl ?_
        refine V_iload dX8_movedIn_31 5 rfl ?_
        refine V_iload_n dX8_movedIn_33 1 rfl ?_
        refine V_selfR dX8_movedIn_34 lX8_179 (e_M_moved w a th Z sn gs ps X j x na nj nl ac hN (by omega)) rfl rfl 0 rfl rfl rfl rfl ?_
        refine V_iadd dX8_movedIn_37 ?_
        refine V_istore dX8_movedIn_38 rfl (L' := [(0, .ref (a 0)), (1, .int x), (2, .int f), (3, .int t), (4, .int ((mMv (X 11) nl x f t j) + (mNet (X 11) j x (nl j)))), (5, .int (nI j))]) rfl ?_
        refine V_iinc (nI (j + 1)) dX8_movedIn_40 5 rfl (nI_i1 j) rfl (L' := [(0, .ref (a 0)), (1, .int x), (2, .int f), (3, .int t), (4, .int ((mMv (X 11) nl x f t j) + (mNet (X 11) j x (nl j)))), (5, .int (nI (j + 1)))]) rfl ?_
        refine V_goto 6 dX8_movedIn_43 (by decide) ?_
        rw [show (mMv (X 11) nl x f t j) + (mNet (X 11) j x (nl j)) = mMv (X 11) nl x f t (j + 1) by rw [mMv, zc2]; rfl]
        exact ih (j + 1) (by omega) (by omega)

set_option maxRecDepth 100000 in
set_option maxHeartbeats 4000000 in
theorem e_M_movedIn (w : vWd) (a : Nat → Nat) (th : Int32) (Z : ZT) (sn gs ps : Nat) (X : Nat → Nat → Int32) (x f t : Int32) (na nj : Nat) (nl : Nat → Nat) (ac : Nat → Nat → Nat) (hN : okN (X 11) na nj nl ac) : Ct w mX8_movedIn 3 0 0 [.ref (a 0), .int x, .int f, .int t] (cG w a th Z sn gs ps X) (qE (some (.int (mMv (X 11) nl x f t nj))) (cG w a th Z sn gs ps X)) := by
  refine Ct.of (L := [(0, .ref (a 0)), (1, .int x), (2, .int f), (3, .int t)]) (by decide) rfl rfl ?_
  refine V_iconst 0 dX8_movedIn_0 (by decide) ?_
  refine V_istore dX8_movedIn_1 rfl (L' := [(0, .ref (a 0)), (1, .int x), (2, .int f), (3, .int t), (4, .int 0)]) rfl ?_
  refine V_iconst 0 dX8_movedIn_3 (by decide) ?_
  refine V_istore dX8_movedIn_4 rfl (L' := [(0, .ref (a 0)), (1, .int x), (2, .int f), (3, .int t), (4, .int 0), (5, .int 0)]) rfl ?_
  exact lp_M_movedIn w a th Z sn gs ps X x f t na nj nl ac hN (nj + 1) 0 (by omega) (by omega)

set_option maxRecDepth 100000 in
set_option maxHeartbeats 4000000 in
theorem e_M_balanceOf (w : vWd) (a : Nat → Nat) (th : Int32) (Z : ZT) (sn gs ps : Nat) (X : Nat → Nat → Int32) (i : Nat) (t : Int32) (na nj : Nat) (nl : Nat → Nat) (ac : Nat → Nat → Nat) (hN : okN (X 11) na nj nl ac) (hi : i < 12) : Ct w mX8_balanceOf 4 0 0 [.ref (a 0), .int (nI i), .int t] (cG w a th Z sn gs ps X) (qE (some (.int (mBal (X 11) nl nj i t))) (cG w a th Z sn gs ps X)) := by
  refine Ct.of (L := [(0, .ref (a 0)), (1, .int (nI i)), (2, .int t)]) (by decide) rfl rfl ?_
  refine V_aload_n dX8_balanceOf_0 0 rfl ?_
  refine V_iload_n dX8_balanceOf_1 1 rfl ?_
  refine V_iconst 1 dX8_balanceOf_2 (by decide) ?_
  refine V_selfR dX8_balanceOf_3 lX8_163 (e_M_its w a th Z sn gs ps X i 1 (by omega)) rfl rfl 0 rfl rfl rfl rfl ?_
  refine V_aload_n dX8_balanceOf_6 0 rfl ?_
  refine V_iload_n dX8_balanceOf_7 1 rfl ?_
  refine V_iconst 0 dX8_balanceOf_8 (by decide) ?_
  refine V_iload_n dX8_balanceOf_9 2 rfl ?_
  refine V_selfR dX8_balanceOf_10 lX8_182 (e_M_movedIn w a th Z sn gs ps X (nI i) 0 t na nj nl ac hN) rfl rfl 0 rfl rfl rfl rfl ?_
  refine V_iadd dX8_balanceOf_13 ?_
  exact V_iret dX8_balanceOf_14 rfl (nb rfl) (nb rfl) ⟨rfl, rfl⟩

set_option maxRecDepth 100000 in
set_option maxHeartbeats 4000000 in
theorem e_M_residual (w : vWd) (a : Nat → Nat) (th : Int32) (Z : ZT) (sn gs ps : Nat) (X : Nat → Nat → Int32) (i : Nat) (na nj : Nat) (nl : Nat → Nat) (ac : Nat → Nat → Nat) (hN : okN (X 11) na nj nl ac) (hi : i < 12) : Ct w mX8_residual 5 0 0 [.ref (a 0), .int (nI i)] (cG w a th Z sn gs ps X) (qE (some (.int (mRes (X 11) nl nj i))) (cG w a th Z sn gs ps X)) := by
  refine Ct.of (L := [(0, .ref (a 0)), (1, .int (nI i))]) (by decide) rfl rfl ?_
  refine V_aload_n dX8_residual_0 0 rfl ?_
  refine V_iload_n dX8_residual_1 1 rfl ?_
  refine V_iconst 2 dX8_residual_2 (by decide) ?_
  refine V_selfR dX8_residual_3 lX8_163 (e_M_its w a th Z sn gs ps X i 2 (by omega)) rfl rfl 0 rfl rfl rfl rfl ?_
  refine V_if_ne 13 dX8_residual_6 (by decide) (fun zc1 => ?_) (fun zc1 => ?_)
  · refine V_aload_n dX8_residual_13 0 rfl ?_
    refine V_iload_n dX8_residual_14 1 rfl ?_
    refine V_iconst 3 dX8_residual_15 (by decide) ?_
    refine V_selfR dX8_residual_16 lX8_163 (e_M_its w a th Z sn gs ps X i 3 (by omega)) rfl rfl 0 rfl rfl rfl rfl ?_
    refine V_aload_n dX8_residual_19 0 rfl ?_
    refine V_iload_n dX8_residual_20 1 rfl ?_
    refine V_bipush 20 dX8_residual_21 (by decide) ?_
    refine V_selfR dX8_residual_23 lX8_186 (e_M_balanceOf w a th Z sn gs ps X i 20 na nj nl ac hN (by omega)) rfl rfl 0 rfl rfl rfl rfl ?_
    refine V_isub dX8_residual_26 ?_
    exact V_iret dX8_residual_27 rfl (nb rfl) (nb rfl) ⟨by grind [mRes], rfl⟩
  · refine V_iconst 0 dX8_residual_9 (by decide) ?_
    refine V_goto 27 dX8_residual_10 (by decide) ?_
    exact V_iret dX8_residual_27 rfl (nb rfl) (nb rfl) ⟨by grind [mRes], rfl⟩
