/-! 14: the reference reads a text -/
/-- where it reads: place behind the token, the token's place, its sort, number; kind and place of a fault; word; what was got; the row that is read into -/
abbrev MP : Type := Nat × Nat × Nat × Int32 × Nat × Nat × Int64 × Int32 × (Nat → Int32)
def c9 (w : vWd) (a : Nat → Nat) (th : Int32) (tp sz sn gs ps : Nat) (X : Nat → Nat → Int32) (P : MP) : va_W :=
  cM w a th tp sz P.1 P.2.1 P.2.2.1 P.2.2.2.1 P.2.2.2.2.1 P.2.2.2.2.2.1 P.2.2.2.2.2.2.1 sn P.2.2.2.2.2.2.2.1 gs ps (uX X 12 P.2.2.2.2.2.2.2.2)
def mGo (t : Nat → Int32) (n : Nat) (P : MP) : MP := ((goR t n P.1 P.2.2.2.1 P.2.2.2.2.2.2.1).1, (goR t n P.1 P.2.2.2.1 P.2.2.2.2.2.2.1).2.1, (goR t n P.1 P.2.2.2.1 P.2.2.2.2.2.2.1).2.2.1, (goR t n P.1 P.2.2.2.1 P.2.2.2.2.2.2.1).2.2.2.1, P.2.2.2.2.1, P.2.2.2.2.2.1, (goR t n P.1 P.2.2.2.1 P.2.2.2.2.2.2.1).2.2.2.2, P.2.2.2.2.2.2.2)
def mBad (wh : Nat) (P : MP) : MP := (P.1, P.2.1, P.2.2.1, P.2.2.2.1, if P.2.2.1 = 1 then 1 else wh, P.2.1, P.2.2.2.2.2.2)
def mGt (x : Int32) (P : MP) : MP := (P.1, P.2.1, P.2.2.1, P.2.2.2.1, P.2.2.2.2.1, P.2.2.2.2.2.1, P.2.2.2.2.2.2.1, x, P.2.2.2.2.2.2.2.2)
def mRd (f : Nat → Int32) (P : MP) : MP := (P.1, P.2.1, P.2.2.1, P.2.2.2.1, P.2.2.2.2.1, P.2.2.2.2.2.1, P.2.2.2.2.2.2.1, P.2.2.2.2.2.2.2.1, f)
def mSg (c : Int32) (P : MP) : Bool := decide (P.2.2.1 = 4) && decide (P.2.2.2.2.2.2.1 = c.toInt64)
def mWd (x : Int64) (P : MP) : Bool := decide (P.2.2.1 = 2) && decide (P.2.2.2.2.2.2.1 = x)
theorem skp_le2 {t : Nat → Int32} {n p m : Nat} (h : p ≤ n) : skp t n m p ≤ n := (skp_le h).2
theorem goS_le {t : Nat → Int32} {n f : Nat} {nu : Int32} {wd : Int64} (h : f ≤ n) : (goS t n f nu wd).1 ≤ n := by
  unfold goS
  split
  · exact h
  · split
    · exact h
    · split
      · exact (rn_le (by omega)).2
      · show f + 1 ≤ n; omega
theorem mGo_le {t : Nat → Int32} {n : Nat} {P : MP} (h : P.1 ≤ n) : (mGo t n P).1 ≤ n := goS_le (skp_le2 h)
def mTk (t : Nat → Int32) (n : Nat) (lo hi : Int32) (P : MP) : Bool × MP := if P.2.2.1 = 3 then (if isInB P.2.2.2.1 lo hi then (true, mGo t n (mGt P.2.2.2.1 P)) else (false, mBad 2 P)) else (false, mBad 1 P)
def mT1 (t : Nat → Int32) (n : Nat) (P : MP) : MP := if mSg 45 P then mGo t n P else P
def mTA (t : Nat → Int32) (n : Nat) (lo : Int32) (P : MP) : Bool × MP := if (mTk t n lo 99999 (mT1 t n P)).1 then (true, if mSg 45 P then mGt (-(mTk t n lo 99999 (mT1 t n P)).2.2.2.2.2.2.2.2.1) (mTk t n lo 99999 (mT1 t n P)).2 else (mTk t n lo 99999 (mT1 t n P)).2) else (false, (mTk t n lo 99999 (mT1 t n P)).2)
theorem mTk_le {t : Nat → Int32} {n : Nat} {lo hi : Int32} {P : MP} (h : P.1 ≤ n) : (mTk t n lo hi P).2.1 ≤ n := by
  unfold mTk
  split
  · split
    · exact mGo_le h
    · exact h
  · exact h
theorem mT1_le {t : Nat → Int32} {n : Nat} {P : MP} (h : P.1 ≤ n) : (mT1 t n P).1 ≤ n := by
  unfold mT1
  split
  · exact mGo_le h
  · exact h
theorem mTA_le {t : Nat → Int32} {n : Nat} {lo : Int32} {P : MP} (h : P.1 ≤ n) : (mTA t n lo P).2.1 ≤ n := by
  have h1 := mTk_le (t := t) (lo := lo) (hi := 99999) (mT1_le (t := t) h)
  unfold mTA
  split
  · split
    · exact h1
    · exact h1
  · exact h1
theorem mTk_rd {t : Nat → Int32} {n : Nat} {lo hi : Int32} {P : MP} : (mTk t n lo hi P).2.2.2.2.2.2.2.2.2 = P.2.2.2.2.2.2.2.2 := by
  unfold mTk
  split
  · split <;> rfl
  · rfl
theorem mTA_rd {t : Nat → Int32} {n : Nat} {lo : Int32} {P : MP} : (mTA t n lo P).2.2.2.2.2.2.2.2.2 = P.2.2.2.2.2.2.2.2 := by
  have h1 : (mTk t n lo 99999 (mT1 t n P)).2.2.2.2.2.2.2.2.2 = P.2.2.2.2.2.2.2.2 := by
    rw [mTk_rd]; unfold mT1; split <;> rfl
  unfold mTA
  split
  · split
    · exact h1
    · exact h1
  · exact h1
def mKd (P : MP) : Int32 := if mWd (four 99 97 115 104) P then 0 else if mWd (four 119 111 114 107) P then 1 else if mWd (729 * four 105 110 99 111 + two 109 101) P then 2 else if mWd (729 * four 105 110 118 101 + two 115 116) P then 3 else if mWd (seven 102 105 110 97 110 99 101) P then 4 else if mWd (27 * seven 99 117 114 114 101 110 99 + 25) P then 5 else -1
theorem lg_cmp_0 (x y : Int64) : (lg_cmp x y = 0) ↔ x = y := by
  unfold lg_cmp
  constructor
  · intro h
    split at h
    · exact absurd h (by decide)
    · split at h
      · assumption
      · exact absurd h (by decide)
  · intro h
    subst h
    rw [if_neg (by grind), if_pos rfl]

theorem d_M_go (w : vWd) (a : Nat → Nat) (th : Int32) (tp sz sn gs ps : Nat) (X : Nat → Nat → Int32) (P : MP) (hs : sz ≤ 640) (hq : P.1 ≤ sz) : Ct w mX8_go 1 0 0 [.ref (a 0)] (c9 w a th tp sz sn gs ps X P) (qE none (c9 w a th tp sz sn gs ps X (mGo (X 1) sz P))) := c_M_go w a th tp sz P.1 P.2.1 P.2.2.1 P.2.2.2.1 P.2.2.2.2.1 P.2.2.2.2.2.1 P.2.2.2.2.2.2.1 sn P.2.2.2.2.2.2.2.1 gs ps (uX X 12 P.2.2.2.2.2.2.2.2) hs hq

set_option maxRecDepth 100000 in
set_option maxHeartbeats 4000000 in
theorem d_M_isWord (w : vWd) (a : Nat → Nat) (th : Int32) (tp sz sn gs ps : Nat) (X : Nat → Nat → Int32) (P : MP) (x : Int64) (hso : P.2.2.1 ≤ 4) : Ct w mX8_isWord 0 0 0 [.ref (a 0), .long (x)] (c9 w a th tp sz sn gs ps X P) (qE (some (.int (bi (mWd x P)))) (c9 w a th tp sz sn gs ps X P)) := by
  refine Ct.of (L := [(0, .ref (a 0)), (1, .long (x))]) (by decide) rfl rfl ?_
  refine V_aload_n dX8_isWord_0 0 rfl ?_
  refine V_get dX8_isWord_1 fX8_27 0 rfl rfl ?_
  refine V_iconst 2 dX8_isWord_4 (by decide) ?_
  refine V_icmp_ne_n P.2.2.1 2 21 dX8_isWord_5 (by decide) (by omega) (by omega) (fun zc1 => ?_) (fun zc1 => ?_)
  · refine V_iconst 0 dX8_isWord_21 (by decide) ?_
    exact V_zret dX8_isWord_22 rfl rfl (nb rfl) (nb rfl) ⟨by grind [mWd, bi, lg_cmp_0], rfl⟩
  · refine V_aload_n dX8_isWord_8 0 rfl ?_
    refine V_get dX8_isWord_9 fX8_37 0 rfl rfl ?_
    refine V_lload_n dX8_isWord_12 1 rfl ?_
    refine V_lcmp dX8_isWord_13 ?_
    refine V_if_ne 21 dX8_isWord_14 (by decide) (fun zc2 => ?_) (fun zc2 => ?_)
    · refine V_iconst 0 dX8_isWord_21 (by decide) ?_
      exact V_zret dX8_isWord_22 rfl rfl (nb rfl) (nb rfl) ⟨by grind [mWd, bi, lg_cmp_0], rfl⟩
    · refine V_iconst 1 dX8_isWord_17 (by decide) ?_
      refine V_goto 22 dX8_isWord_18 (by decide) ?_
      exact V_zret dX8_isWord_22 rfl rfl (nb rfl) (nb rfl) ⟨by grind [mWd, bi, lg_cmp_0], rfl⟩

set_option maxRecDepth 100000 in
set_option maxHeartbeats 4000000 in
theorem d_M_isSign (w : vWd) (a : Nat → Nat) (th : Int32) (tp sz sn gs ps : Nat) (X : Nat → Nat → Int32) (P : MP) (x : Int32) (hso : P.2.2.1 ≤ 4) : Ct w mX8_isSign 0 0 0 [.ref (a 0), .int x] (c9 w a th tp sz sn gs ps X P) (qE (some (.int (bi (mSg x P)))) (c9 w a th tp sz sn gs ps X P)) := by
  refine Ct.of (L := [(0, .ref (a 0)), (1, .int x)]) (by decide) rfl rfl ?_
  refine V_aload_n dX8_isSign_0 0 rfl ?_
  refine V_get dX8_isSign_1 fX8_27 0 rfl rfl ?_
  refine V_iconst 4 dX8_isSign_4 (by decide) ?_
  refine V_icmp_ne_n P.2.2.1 4 22 dX8_isSign_5 (by decide) (by omega) (by omega) (fun zc1 => ?_) (fun zc1 => ?_)
  · refine V_iconst 0 dX8_isSign_22 (by decide) ?_
    exact V_zret dX8_isSign_23 rfl rfl (nb rfl) (nb rfl) ⟨by grind [mSg, bi, lg_cmp_0], rfl⟩
  · refine V_aload_n dX8_isSign_8 0 rfl ?_
    refine V_get dX8_isSign_9 fX8_37 0 rfl rfl ?_
    refine V_iload_n dX8_isSign_12 1 rfl ?_
    refine V_i2l dX8_isSign_13 ?_
    refine V_lcmp dX8_isSign_14 ?_
    refine V_if_ne 22 dX8_isSign_15 (by decide) (fun zc2 => ?_) (fun zc2 => ?_)
    · refine V_iconst 0 dX8_isSign_22 (by decide) ?_
      exact V_zret dX8_isSign_23 rfl rfl (nb rfl) (nb rfl) ⟨by grind [mSg, bi, lg_cmp_0], rfl⟩
    · refine V_iconst 1 dX8_isSign_18 (by decide) ?_
      refine V_goto 23 dX8_isSign_19 (by decide) ?_
      exact V_zret dX8_isSign_23 rfl rfl (nb rfl) (nb rfl) ⟨by grind [mSg, bi, lg_cmp_0], rfl⟩

set_option maxRecDepth 100000 in
set_option maxHeartbeats 4000000 in
theorem d_M_bad (w : vWd) (a : Nat → Nat) (th : Int32) (tp sz sn gs ps : Nat) (X : Nat → Nat → Int32) (P : MP) (wh : Nat) (hso : P.2.2.1 ≤ 4) : Ct w mX8_bad 0 0 0 [.ref (a 0), .int (nI wh)] (c9 w a th tp sz sn gs ps X P) (qE (some (.int (bi false))) (c9 w a th tp sz sn gs ps X (mBad wh P))) := by
  refine Ct.of (L := [(0, .ref (a 0)), (1, .int (nI wh))]) (by decide) rfl rfl ?_
  refine V_aload_n dX8_bad_0 0 rfl ?_
  refine V_aload_n dX8_bad_1 0 rfl ?_
  refine V_get dX8_bad_2 fX8_27 0 rfl rfl ?_
  refine V_iconst 1 dX8_bad_5 (by decide) ?_
  refine V_icmp_ne_n P.2.2.1 1 13 dX8_bad_6 (by decide) (by omega) (by omega) (fun zc1 => ?_) (fun zc1 => ?_)
  · refine V_iload_n dX8_bad_13 1 rfl ?_
    refine V_put dX8_bad_14 pX8_64 0 rfl rfl rfl rfl (ws' := c9 w a th tp sz sn gs ps X (P.1, P.2.1, P.2.2.1, P.2.2.2.1, wh, P.2.2.2.2.2.1, P.2.2.2.2.2.2.1, P.2.2.2.2.2.2.2.1, P.2.2.2.2.2.2.2.2)) rfl ?_
    refine V_aload_n dX8_bad_17 0 rfl ?_
    refine V_aload_n dX8_bad_18 0 rfl ?_
    refine V_get dX8_bad_19 fX8_24 0 rfl rfl ?_
    refine V_put dX8_bad_22 pX8_67 0 rfl rfl rfl rfl (ws' := c9 w a th tp sz sn gs ps X (P.1, P.2.1, P.2.2.1, P.2.2.2.1, wh, P.2.1, P.2.2.2.2.2.2.1, P.2.2.2.2.2.2.2.1, P.2.2.2.2.2.2.2.2)) rfl ?_
    refine V_iconst 0 dX8_bad_25 (by decide) ?_
    exact V_zret dX8_bad_26 rfl rfl (nb rfl) (nb rfl) ⟨rfl, by rw [show mBad wh P = (P.1, P.2.1, P.2.2.1, P.2.2.2.1, wh, P.2.1, P.2.2.2.2.2.2.1, P.2.2.2.2.2.2.2.1, P.2.2.2.2.2.2.2.2) by rw [mBad, if_neg zc1]]⟩
  · refine V_iconst 1 dX8_bad_9 (by decide) ?_
    refine V_goto 14 dX8_bad_10 (by decide) ?_
    refine V_put dX8_bad_14 pX8_64 0 rfl rfl rfl rfl (ws' := c9 w a th tp sz sn gs ps X (P.1, P.2.1, P.2.2.1, P.2.2.2.1, 1, P.2.2.2.2.2.1, P.2.2.2.2.2.2.1, P.2.2.2.2.2.2.2.1, P.2.2.2.2.2.2.2.2)) rfl ?_
    refine V_aload_n dX8_bad_17 0 rfl ?_
    refine V_aload_n dX8_bad_18 0 rfl ?_
    refine V_get dX8_bad_19 fX8_24 0 rfl rfl ?_
    refine V_put dX8_bad_22 pX8_67 0 rfl rfl rfl rfl (ws' := c9 w a th tp sz sn gs ps X (P.1, P.2.1, P.2.2.1, P.2.2.2.1, 1, P.2.1, P.2.2.2.2.2.2.1, P.2.2.2.2.2.2.2.1, P.2.2.2.2.2.2.2.2)) rfl ?_
    refine V_iconst 0 dX8_bad_25 (by decide) ?_
    exact V_zret dX8_bad_26 rfl rfl (nb rfl) (nb rfl) ⟨rfl, by rw [show mBad wh P = (P.1, P.2.1, P.2.2.1, P.2.2.2.1, 1, P.2.1, P.2.2.2.2.2.2.1, P.2.2.2.2.2.2.2.1, P.2.2.2.2.2.2.2.2) by rw [mBad, if_pos zc1]]⟩

theorem goS_so {t : Nat → Int32} {n f : Nat} {nu : Int32} {wd : Int64} : (goS t n f nu wd).2.2.1 ≤ 4 := by
  unfold goS
  split
  · show 1 ≤ 4; decide
  · split
    · show 0 ≤ 4; decide
    · split
      · show soR _ _ _ ≤ 4; unfold soR; split
        · decide
        · split <;> decide
      · show (if _ then 4 else 1) ≤ 4; split <;> decide
theorem mGo_so {t : Nat → Int32} {n : Nat} {P : MP} : (mGo t n P).2.2.1 ≤ 4 := goS_so
theorem mTk_so {t : Nat → Int32} {n : Nat} {lo hi : Int32} {P : MP} (h : P.2.2.1 ≤ 4) : (mTk t n lo hi P).2.2.2.1 ≤ 4 := by
  unfold mTk
  split
  · split
    · exact mGo_so
    · exact h
  · exact h
theorem mT1_so {t : Nat → Int32} {n : Nat} {P : MP} (h : P.2.2.1 ≤ 4) : (mT1 t n P).2.2.1 ≤ 4 := by
  unfold mT1
  split
  · exact mGo_so
  · exact h
theorem mTA_so {t : Nat → Int32} {n : Nat} {lo : Int32} {P : MP} (h : P.2.2.1 ≤ 4) : (mTA t n lo P).2.2.2.1 ≤ 4 := by
  have h1 := mTk_so (t := t) (n := n) (lo := lo) (hi := 99999) (mT1_so (t := t) (n := n) h)
  unfold mTA
  split
  · split
    · exact h1
    · exact h1
  · exact h1

set_option maxRecDepth 100000 in
set_option maxHeartbeats 4000000 in
theorem d_M_takes (w : vWd) (a : Nat → Nat) (th : Int32) (tp sz sn gs ps : Nat) (X : Nat → Nat → Int32) (P : MP) (lo hi : Int32) (hs : sz ≤ 640) (hq : P.1 ≤ sz) (hso : P.2.2.1 ≤ 4) : Ct w mX8_takes 2 0 0 [.ref (a 0), .int lo, .int hi] (c9 w a th tp sz sn gs ps X P) (qE (some (.int (bi (mTk (X 1) sz lo hi P).1))) (c9 w a th tp sz sn gs ps X (mTk (X 1) sz lo hi P).2)) := by
  refine Ct.of (L := [(0, .ref (a 0)), (1, .int lo), (2, .int hi)]) (by decide) rfl rfl ?_
  refine V_aload_n dX8_takes_0 0 rfl ?_
  refine V_get dX8_takes_1 fX8_27 0 rfl rfl ?_
  refine V_iconst 3 dX8_takes_4 (by decide) ?_
  refine V_icmp_eq_n P.2.2.1 3 14 dX8_takes_5 (by decide) (by omega) (by omega) (fun zc1 => ?_) (fun zc1 => ?_)
  · refine V_aload_n dX8_takes_14 0 rfl ?_
    refine V_get dX8_takes_15 fX8_41 0 rfl rfl ?_
    refine V_iload_n dX8_takes_18 1 rfl ?_
    refine V_iload_n dX8_takes_19 2 rfl ?_
    refine V_purS dX8_takes_20 lX8_112 (c_M_isIn w P.2.2.2.1 lo hi) rfl rfl rfl ?_
    refine V_ifne_b 32 dX8_takes_23 (by decide) (fun zc2 => ?_) (fun zc2 => ?_)
    · refine V_aload_n dX8_takes_32 0 rfl ?_
      refine V_aload_n dX8_takes_33 0 rfl ?_
      refine V_get dX8_takes_34 fX8_41 0 rfl rfl ?_
      refine V_put dX8_takes_37 pX8_116 0 rfl rfl rfl rfl (ws' := c9 w a th tp sz sn gs ps X (mGt P.2.2.2.1 P)) rfl ?_
      refine V_aload_n dX8_takes_40 0 rfl ?_
      refine V_selfE (ws' := c9 w a th tp sz sn gs ps X (mGo (X 1) sz (mGt P.2.2.2.1 P))) dX8_takes_41 lX8_119 (d_M_go w a th tp sz sn gs ps X (mGt P.2.2.2.1 P) hs hq) rfl rfl 0 rfl rfl rfl rfl ?_
      refine V_iconst 1 dX8_takes_44 (by decide) ?_
      refine V_zret dX8_takes_45 rfl rfl (nb rfl) (nb rfl) ?_
      have hr : mTk (X 1) sz lo hi P = (true, (mGo (X 1) sz (mGt P.2.2.2.1 P))) := by grind [mTk, mGt]
      exact ⟨by rw [hr] <;> rfl, by rw [hr]⟩
    · refine V_aload_n dX8_takes_26 0 rfl ?_
      refine V_iconst 2 dX8_takes_27 (by decide) ?_
      refine V_selfE (ws' := c9 w a th tp sz sn gs ps X (mBad 2 P)) dX8_takes_28 lX8_109 (d_M_bad w a th tp sz sn gs ps X P 2 hso) rfl rfl 0 rfl rfl rfl rfl ?_
      refine V_bret dX8_takes_31 rfl (nb rfl) (nb rfl) ?_
      have hr : mTk (X 1) sz lo hi P = (false, (mBad 2 P)) := by grind [mTk, mGt]
      exact ⟨by rw [hr] <;> rfl, by rw [hr]⟩
  · refine V_aload_n dX8_takes_8 0 rfl ?_
    refine V_iconst 1 dX8_takes_9 (by decide) ?_
    refine V_selfE (ws' := c9 w a th tp sz sn gs ps X (mBad 1 P)) dX8_takes_10 lX8_109 (d_M_bad w a th tp sz sn gs ps X P 1 hso) rfl rfl 0 rfl rfl rfl rfl ?_
    refine V_bret dX8_takes_13 rfl (nb rfl) (nb rfl) ?_
    have hr : mTk (X 1) sz lo hi P = (false, (mBad 1 P)) := by grind [mTk, mGt]
    exact ⟨by rw [hr] <;> rfl, by rw [hr]⟩

set_option maxRecDepth 100000 in
set_option maxHeartbeats 4000000 in
theorem d_M_takesAmount (w : vWd) (a : Nat → Nat) (th : Int32) (tp sz sn gs ps : Nat) (X : Nat → Nat → Int32) (P : MP) (lo : Int32) (hs : sz ≤ 640) (hq : P.1 ≤ sz) (hso : P.2.2.1 ≤ 4) : Ct w mX8_takesAmount 3 0 0 [.ref (a 0), .int lo] (c9 w a th tp sz sn gs ps X P) (qE (some (.int (bi (mTA (X 1) sz lo P).1))) (c9 w a th tp sz sn gs ps X (mTA (X 1) sz lo P).2)) := by
  refine Ct.of (L := [(0, .ref (a 0)), (1, .int lo)]) (by decide) rfl rfl ?_
  refine V_aload_n dX8_takesAmount_0 0 rfl ?_
  refine V_bipush 45 dX8_takesAmount_1 (by decide) ?_
  refine V_selfR dX8_takesAmount_3 lX8_122 (d_M_isSign w a th tp sz sn gs ps X P 45 hso) rfl rfl 0 rfl rfl rfl rfl ?_
  refine V_istore_n dX8_takesAmount_6 rfl (L' := [(0, .ref (a 0)), (1, .int lo), (2, .int (bi (mSg 45 P)))]) rfl ?_
  refine V_iload_n dX8_takesAmount_7 2 rfl ?_
  refine V_ifeq_b 15 dX8_takesAmount_8 (by decide) (fun zc1 => ?_) (fun zc1 => ?_)
  · refine V_ws (ws' := c9 w a th tp sz sn gs ps X (mT1 (X 1) sz P)) (by rw [mT1, zc1]; rfl) ?_
    refine V_aload_n dX8_takesAmount_15 0 rfl ?_
    refine V_iload_n dX8_takesAmount_16 1 rfl ?_
    refine V_ldc dX8_takesAmount_17 kX8_125 ?_
    refine V_selfE (ws' := c9 w a th tp sz sn gs ps X ((mTk (X 1) sz lo 99999 (mT1 (X 1) sz P)).2)) dX8_takesAmount_19 lX8_126 (d_M_takes w a th tp sz sn gs ps X (mT1 (X 1) sz P) lo 99999 hs (mT1_le hq) (mT1_so hso)) rfl rfl 0 rfl rfl rfl rfl ?_
    refine V_ifne_b 27 dX8_takesAmount_22 (by decide) (fun zc2 => ?_) (fun zc2 => ?_)
    · refine V_iload_n dX8_takesAmount_27 2 rfl ?_
      refine V_ifeq_b 40 dX8_takesAmount_28 (by decide) (fun zc3 => ?_) (fun zc3 => ?_)
      · refine V_iconst 1 dX8_takesAmount_40 (by decide) ?_
        refine V_zret dX8_takesAmount_41 rfl rfl (nb rfl) (nb rfl) ?_
        have hr : mTA (X 1) sz lo P = (true, ((mTk (X 1) sz lo 99999 (mT1 (X 1) sz P)).2)) := by grind [mTA, mGt]
        exact ⟨by rw [hr] <;> rfl, by rw [hr]⟩
      · refine V_aload_n dX8_takesAmount_31 0 rfl ?_
        refine V_aload_n dX8_takesAmount_32 0 rfl ?_
        refine V_get dX8_takesAmount_33 fX8_116 0 rfl rfl ?_
        refine V_ineg dX8_takesAmount_36 ?_
        refine V_put dX8_takesAmount_37 pX8_116 0 rfl rfl rfl rfl (ws' := c9 w a th tp sz sn gs ps X (mGt (-(((mTk (X 1) sz lo 99999 (mT1 (X 1) sz P)).2).2.2.2.2.2.2.2.1)) ((mTk (X 1) sz lo 99999 (mT1 (X 1) sz P)).2))) rfl ?_
        refine V_iconst 1 dX8_takesAmount_40 (by decide) ?_
        refine V_zret dX8_takesAmount_41 rfl rfl (nb rfl) (nb rfl) ?_
        have hr : mTA (X 1) sz lo P = (true, (mGt (-(((mTk (X 1) sz lo 99999 (mT1 (X 1) sz P)).2).2.2.2.2.2.2.2.1)) ((mTk (X 1) sz lo 99999 (mT1 (X 1) sz P)).2))) := by grind [mTA, mGt]
        exact ⟨by rw [hr] <;> rfl, by rw [hr]⟩
    · refine V_iconst 0 dX8_takesAmount_25 (by decide) ?_
      refine V_zret dX8_takesAmount_26 rfl rfl (nb rfl) (nb rfl) ?_
      have hr : mTA (X 1) sz lo P = (false, ((mTk (X 1) sz lo 99999 (mT1 (X 1) sz P)).2)) := by grind [mTA, mGt]
      exact ⟨by rw [hr] <;> rfl, by rw [hr]⟩
  · refine V_aload_n dX8_takesAmount_11 0 rfl ?_
    refine V_selfE (ws' := c9 w a th tp sz sn gs ps X (mGo (X 1) sz P)) dX8_takesAmount_12 lX8_119 (d_M_go w a th tp sz sn gs ps X P hs hq) rfl rfl 0 rfl rfl rfl rfl ?_
    refine V_ws (ws' := c9 w a th tp sz sn gs ps X (mT1 (X 1) sz P)) (by rw [mT1, if_pos zc1]) ?_
    refine V_aload_n dX8_takesAmount_15 0 rfl ?_
    refine V_iload_n dX8_takesAmount_16 1 rfl ?_
    refine V_ldc dX8_takesAmount_17 kX8_125 ?_
    refine V_selfE (ws' := c9 w a th tp sz sn gs ps X ((mTk (X 1) sz lo 99999 (mT1 (X 1) sz P)).2)) dX8_takesAmount_19 lX8_126 (d_M_takes w a th tp sz sn gs ps X (mT1 (X 1) sz P) lo 99999 hs (mT1_le hq) (mT1_so hso)) rfl rfl 0 rfl rfl rfl rfl ?_
    refine V_ifne_b 27 dX8_takesAmount_22 (by decide) (fun zc4 => ?_) (fun zc4 => ?_)
    · refine V_iload_n dX8_takesAmount_27 2 rfl ?_
      refine V_ifeq_b 40 dX8_takesAmount_28 (by decide) (fun zc5 => ?_) (fun zc5 => ?_)
      · refine V_iconst 1 dX8_takesAmount_40 (by decide) ?_
        refine V_zret dX8_takesAmount_41 rfl rfl (nb rfl) (nb rfl) ?_
        have hr : mTA (X 1) sz lo P = (true, ((mTk (X 1) sz lo 99999 (mT1 (X 1) sz P)).2)) := by grind [mTA, mGt]
        exact ⟨by rw [hr] <;> rfl, by rw [hr]⟩
      · refine V_aload_n dX8_takesAmount_31 0 rfl ?_
        refine V_aload_n dX8_takesAmount_32 0 rfl ?_
        refine V_get dX8_takesAmount_33 fX8_116 0 rfl rfl ?_
        refine V_ineg dX8_takesAmount_36 ?_
        refine V_put dX8_takesAmount_37 pX8_116 0 rfl rfl rfl rfl (ws' := c9 w a th tp sz sn gs ps X (mGt (-(((mTk (X 1) sz lo 99999 (mT1 (X 1) sz P)).2).2.2.2.2.2.2.2.1)) ((mTk (X 1) sz lo 99999 (mT1 (X 1) sz P)).2))) rfl ?_
        refine V_iconst 1 dX8_takesAmount_40 (by decide) ?_
        refine V_zret dX8_takesAmount_41 rfl rfl (nb rfl) (nb rfl) ?_
        have hr : mTA (X 1) sz lo P = (true, (mGt (-(((mTk (X 1) sz lo 99999 (mT1 (X 1) sz P)).2).2.2.2.2.2.2.2.1)) ((mTk (X 1) sz lo 99999 (mT1 (X 1) sz P)).2))) := by grind [mTA, mGt]
        exact ⟨by rw [hr] <;> rfl, by rw [hr]⟩
    · refine V_iconst 0 dX8_takesAmount_25 (by decide) ?_
      refine V_zret dX8_takesAmount_26 rfl rfl (nb rfl) (nb rfl) ?_
      have hr : mTA (X 1) sz lo P = (false, ((mTk (X 1) sz lo 99999 (mT1 (X 1) sz P)).2)) := by grind [mTA, mGt]
      exact ⟨by rw [hr] <;> rfl, by rw [hr]⟩

set_option maxRecDepth 100000 in
set_option maxHeartbeats 4000000 in
theorem d_M_kindHere (w : vWd) (a : Nat → Nat) (th : Int32) (tp sz sn gs ps : Nat) (X : Nat → Nat → Int32) (P : MP) (hso : P.2.2.1 ≤ 4) : Ct w mX8_kindHere 3 0 0 [.ref (a 0)] (c9 w a th tp sz sn gs ps X P) (qE (some (.int (mKd P))) (c9 w a th tp sz sn gs ps X P)) := by
  refine Ct.of (L := [(0, .ref (a 0))]) (by decide) rfl rfl ?_
  refine V_aload_n dX8_kindHere_0 0 rfl ?_
  refine V_bipush 99 dX8_kindHere_1 (by decide) ?_
  refine V_bipush 97 dX8_kindHere_3 (by decide) ?_
  refine V_bipush 115 dX8_kindHere_5 (by decide) ?_
  refine V_bipush 104 dX8_kindHere_7 (by decide) ?_
  refine V_purS dX8_kindHere_9 lX8_60 (c_M_four w 99 97 115 104) rfl rfl rfl ?_
  refine V_selfR dX8_kindHere_12 lX8_130 (d_M_isWord w a th tp sz sn gs ps X P (four 99 97 115 104) hso) rfl rfl 0 rfl rfl rfl rfl ?_
  refine V_ifeq_b 20 dX8_kindHere_15 (by decide) (fun zc1 => ?_) (fun zc1 => ?_)
  · refine V_aload_n dX8_kindHere_20 0 rfl ?_
    refine V_bipush 119 dX8_kindHere_21 (by decide) ?_
    refine V_bipush 111 dX8_kindHere_23 (by decide) ?_
    refine V_bipush 114 dX8_kindHere_25 (by decide) ?_
    refine V_bipush 107 dX8_kindHere_27 (by decide) ?_
    refine V_purS dX8_kindHere_29 lX8_60 (c_M_four w 119 111 114 107) rfl rfl rfl ?_
    refine V_selfR dX8_kindHere_32 lX8_130 (d_M_isWord w a th tp sz sn gs ps X P (four 119 111 114 107) hso) rfl rfl 0 rfl rfl rfl rfl ?_
    refine V_ifeq_b 40 dX8_kindHere_35 (by decide) (fun zc2 => ?_) (fun zc2 => ?_)
    · refine V_aload_n dX8_kindHere_40 0 rfl ?_
      refine V_ldc2 dX8_kindHere_41 kX8_52 ?_
      refine V_bipush 105 dX8_kindHere_44 (by decide) ?_
      refine V_bipush 110 dX8_kindHere_46 (by decide) ?_
      refine V_bipush 99 dX8_kindHere_48 (by decide) ?_
      refine V_bipush 111 dX8_kindHere_50 (by decide) ?_
      refine V_purS dX8_kindHere_52 lX8_60 (c_M_four w 105 110 99 111) rfl rfl rfl ?_
      refine V_lmul dX8_kindHere_55 ?_
      refine V_bipush 109 dX8_kindHere_56 (by decide) ?_
      refine V_bipush 101 dX8_kindHere_58 (by decide) ?_
      refine V_purS dX8_kindHere_60 lX8_54 (c_M_two w 109 101) rfl rfl rfl ?_
      refine V_ladd dX8_kindHere_63 ?_
      refine V_selfR dX8_kindHere_64 lX8_130 (d_M_isWord w a th tp sz sn gs ps X P ((729 * (four 105 110 99 111)) + (two 109 101)) hso) rfl rfl 0 rfl rfl rfl rfl ?_
      refine V_ifeq_b 72 dX8_kindHere_67 (by decide) (fun zc3 => ?_) (fun zc3 => ?_)
      · refine V_aload_n dX8_kindHere_72 0 rfl ?_
        refine V_ldc2 dX8_kindHere_73 kX8_52 ?_
        refine V_bipush 105 dX8_kindHere_76 (by decide) ?_
        refine V_bipush 110 dX8_kindHere_78 (by decide) ?_
        refine V_bipush 118 dX8_kindHere_80 (by decide) ?_
        refine V_bipush 101 dX8_kindHere_82 (by decide) ?_
        refine V_purS dX8_kindHere_84 lX8_60 (c_M_four w 105 110 118 101) rfl rfl rfl ?_
        refine V_lmul dX8_kindHere_87 ?_
        refine V_bipush 115 dX8_kindHere_88 (by decide) ?_
        refine V_bipush 116 dX8_kindHere_90 (by decide) ?_
        refine V_purS dX8_kindHere_92 lX8_54 (c_M_two w 115 116) rfl rfl rfl ?_
        refine V_ladd dX8_kindHere_95 ?_
        refine V_selfR dX8_kindHere_96 lX8_130 (d_M_isWord w a th tp sz sn gs ps X P ((729 * (four 105 110 118 101)) + (two 115 116)) hso) rfl rfl 0 rfl rfl rfl rfl ?_
        refine V_ifeq_b 104 dX8_kindHere_99 (by decide) (fun zc4 => ?_) (fun zc4 => ?_)
        · refine V_aload_n dX8_kindHere_104 0 rfl ?_
          refine V_bipush 102 dX8_kindHere_105 (by decide) ?_
          refine V_bipush 105 dX8_kindHere_107 (by decide) ?_
          refine V_bipush 110 dX8_kindHere_109 (by decide) ?_
          refine V_bipush 97 dX8_kindHere_111 (by decide) ?_
          refine V_bipush 110 dX8_kindHere_113 (by decide) ?_
          refine V_bipush 99 dX8_kindHere_115 (by decide) ?_
          refine V_bipush 101 dX8_kindHere_117 (by decide) ?_
          refine V_purS dX8_kindHere_119 lX8_134 (c_M_seven w 102 105 110 97 110 99 101) rfl rfl rfl ?_
          refine V_selfR dX8_kindHere_122 lX8_130 (d_M_isWord w a th tp sz sn gs ps X P (seven 102 105 110 97 110 99 101) hso) rfl rfl 0 rfl rfl rfl rfl ?_
          refine V_ifeq_b 130 dX8_kindHere_125 (by decide) (fun zc5 => ?_) (fun zc5 => ?_)
          · refine V_aload_n dX8_kindHere_130 0 rfl ?_
            refine V_ldc2 dX8_kindHere_131 kX8_48 ?_
            refine V_bipush 99 dX8_kindHere_134 (by decide) ?_
            refine V_bipush 117 dX8_kindHere_136 (by decide) ?_
            refine V_bipush 114 dX8_kindHere_138 (by decide) ?_
            refine V_bipush 114 dX8_kindHere_140 (by decide) ?_
            refine V_bipush 101 dX8_kindHere_142 (by decide) ?_
            refine V_bipush 110 dX8_kindHere_144 (by decide) ?_
            refine V_bipush 99 dX8_kindHere_146 (by decide) ?_
            refine V_purS dX8_kindHere_148 lX8_134 (c_M_seven w 99 117 114 114 101 110 99) rfl rfl rfl ?_
            refine V_lmul dX8_kindHere_151 ?_
            refine V_ldc2 dX8_kindHere_152 kX8_138 ?_
            refine V_ladd dX8_kindHere_155 ?_
            refine V_selfR dX8_kindHere_156 lX8_130 (d_M_isWord w a th tp sz sn gs ps X P ((27 * (seven 99 117 114 114 101 110 99)) + 25) hso) rfl rfl 0 rfl rfl rfl rfl ?_
            refine V_ifeq_b 166 dX8_kindHere_159 (by decide) (fun zc6 => ?_) (fun zc6 => ?_)
            · refine V_iconst (-1) dX8_kindHere_166 (by decide) ?_
              exact V_iret dX8_kindHere_167 rfl (nb rfl) (nb rfl) ⟨by grind [mKd], rfl⟩
            · refine V_iconst 5 dX8_kindHere_162 (by decide) ?_
              refine V_goto 167 dX8_kindHere_163 (by decide) ?_
              exact V_iret dX8_kindHere_167 rfl (nb rfl) (nb rfl) ⟨by grind [mKd], rfl⟩
          · refine V_iconst 4 dX8_kindHere_128 (by decide) ?_
            exact V_iret dX8_kindHere_129 rfl (nb rfl) (nb rfl) ⟨by grind [mKd], rfl⟩
        · refine V_iconst 3 dX8_kindHere_102 (by decide) ?_
          exact V_iret dX8_kindHere_103 rfl (nb rfl) (nb rfl) ⟨by grind [mKd], rfl⟩
      · refine V_iconst 2 dX8_kindHere_70 (by decide) ?_
        exact V_iret dX8_kindHere_71 rfl (nb rfl) (nb rfl) ⟨by grind [mKd], rfl⟩
    · refine V_iconst 1 dX8_kindHere_38 (by decide) ?_
      exact V_iret dX8_kindHere_39 rfl (nb rfl) (nb rfl) ⟨by grind [mKd], rfl⟩
  · refine V_iconst 0 dX8_kindHere_18 (by decide) ?_
    exact V_iret dX8_kindHere_19 rfl (nb rfl) (nb rfl) ⟨by grind [mKd], rfl⟩

abbrev rdO (P : MP) : Nat → Int32 := P.2.2.2.2.2.2.2.2
abbrev gtO (P : MP) : Int32 := P.2.2.2.2.2.2.2.1
def mA2 (t : Nat → Int32) (n na : Nat) (P : MP) : MP := mRd (upd (rdO (mGo t n P)) (2 + 4 * na + 0) (mKd (mGo t n P))) (mGo t n P)
def mA3 (t : Nat → Int32) (n na : Nat) (P : MP) : Bool × MP := mTA t n 0 (mGo t n (mA2 t n na P))
def mA4 (t : Nat → Int32) (n na : Nat) (P : MP) : MP := mRd (upd (upd (rdO (mA3 t n na P).2) (2 + 4 * na + 1) (gtO (mA3 t n na P).2)) 0 (nI (na + 1))) (mA3 t n na P).2
def mRA (t : Nat → Int32) (n na : Nat) (P : MP) : Bool × MP := if na = 12 then (false, mBad 3 P) else if mKd (mGo t n P) = -1 then (false, mBad 1 (mA2 t n na P)) else if (mA3 t n na P).1 then (if mSg 59 (mA4 t n na P) then (true, mGo t n (mA4 t n na P)) else (false, mBad 1 (mA4 t n na P))) else (false, (mA3 t n na P).2)
theorem mA3_rd {t : Nat → Int32} {n na : Nat} {P : MP} : rdO (mA3 t n na P).2 = upd (rdO P) (2 + 4 * na + 0) (mKd (mGo t n P)) := mTA_rd

set_option maxRecDepth 100000 in
set_option maxHeartbeats 4000000 in
theorem d_M_readAccount (w : vWd) (a : Nat → Nat) (th : Int32) (tp sz sn gs ps : Nat) (X : Nat → Nat → Int32) (P : MP) (na : Nat) (hna : na ≤ 12) (h0 : rdO P 0 = nI na) (hs : sz ≤ 640) (hq : P.1 ≤ sz) (hso : P.2.2.1 ≤ 4) : Ct w mX8_readAccount 4 0 0 [.ref (a 0)] (c9 w a th tp sz sn gs ps X P) (qE (some (.int (bi (mRA (X 1) sz na P).1))) (c9 w a th tp sz sn gs ps X (mRA (X 1) sz na P).2)) := by
  refine Ct.of (L := [(0, .ref (a 0))]) (by decide) rfl rfl ?_
  refine V_aload_n dX8_readAccount_0 0 rfl ?_
  refine V_get dX8_readAccount_1 fX8_79 0 rfl rfl ?_
  refine V_iconst 0 dX8_readAccount_4 (by decide) ?_
  refine V_iald dX8_readAccount_5 3 rfl rfl 0 rfl (by omega) ?_
  refine V_casti (y := nI na) h0 ?_
  refine V_bipush 12 dX8_readAccount_6 (by decide) ?_
  refine V_icmp_ne_n na 12 17 dX8_readAccount_8 (by decide) (by omega) (by omega) (fun zc1 => ?_) (fun zc1 => ?_)
  · refine V_aload_n dX8_readAccount_17 0 rfl ?_
    refine V_selfE (ws' := c9 w a th tp sz sn gs ps X (mGo (X 1) sz P)) dX8_readAccount_18 lX8_119 (d_M_go w a th tp sz sn gs ps X P hs hq) rfl rfl 0 rfl rfl rfl rfl ?_
    refine V_iconst 2 dX8_readAccount_21 (by decide) ?_
    refine V_iconst 4 dX8_readAccount_22 (by decide) ?_
    refine V_aload_n dX8_readAccount_23 0 rfl ?_
    refine V_get dX8_readAccount_24 fX8_79 0 rfl rfl ?_
    refine V_iconst 0 dX8_readAccount_27 (by decide) ?_
    refine V_iald dX8_readAccount_28 3 rfl rfl 0 rfl (by omega) ?_
    refine V_casti (y := nI na) h0 ?_
    refine V_imul dX8_readAccount_29 ?_
    refine V_casti (y := nI (4 * na)) (pk_mul 4 na) ?_
    refine V_iadd dX8_readAccount_30 ?_
    refine V_casti (y := nI (2 + (4 * na))) (nI_add 2 (4 * na)) ?_
    refine V_istore_n dX8_readAccount_31 rfl (L' := [(0, .ref (a 0)), (1, .int (nI (2 + (4 * na))))]) rfl ?_
    refine V_aload_n dX8_readAccount_32 0 rfl ?_
    refine V_get dX8_readAccount_33 fX8_79 0 rfl rfl ?_
    refine V_iload_n dX8_readAccount_36 1 rfl ?_
    refine V_iconst 0 dX8_readAccount_37 (by decide) ?_
    refine V_iadd dX8_readAccount_38 ?_
    refine V_casti (y := nI ((2 + (4 * na)) + 0)) (nI_add (2 + (4 * na)) 0) ?_
    refine V_aload_n dX8_readAccount_39 0 rfl ?_
    refine V_selfR dX8_readAccount_40 lX8_140 (d_M_kindHere w a th tp sz sn gs ps X (mGo (X 1) sz P) mGo_so) rfl rfl 0 rfl rfl rfl rfl ?_
    refine V_iast dX8_readAccount_43 3 rfl rfl ((2 + (4 * na)) + 0) rfl (by omega) (ws' := c9 w a th tp sz sn gs ps X (mRd (upd ((mGo (X 1) sz P).2.2.2.2.2.2.2.2) ((2 + (4 * na)) + 0) (mKd (mGo (X 1) sz P))) (mGo (X 1) sz P))) rfl ?_
    refine V_aload_n dX8_readAccount_44 0 rfl ?_
    refine V_get dX8_readAccount_45 fX8_79 0 rfl rfl ?_
    refine V_iload_n dX8_readAccount_48 1 rfl ?_
    refine V_iconst 0 dX8_readAccount_49 (by decide) ?_
    refine V_iadd dX8_readAccount_50 ?_
    refine V_casti (y := nI ((2 + (4 * na)) + 0)) (nI_add (2 + (4 * na)) 0) ?_
    refine V_iald dX8_readAccount_51 3 rfl rfl ((2 + (4 * na)) + 0) rfl (by omega) ?_
    refine V_casti (y := mKd (mGo (X 1) sz P)) upd_s ?_
    refine V_iconst (-1) dX8_readAccount_52 (by decide) ?_
    refine V_icmp_ne 62 dX8_readAccount_53 (by decide) (fun zc2 => ?_) (fun zc2 => ?_)
    · refine V_aload_n dX8_readAccount_62 0 rfl ?_
      refine V_selfE (ws' := c9 w a th tp sz sn gs ps X (mGo (X 1) sz (mRd (upd ((mGo (X 1) sz P).2.2.2.2.2.2.2.2) ((2 + (4 * na)) + 0) (mKd (mGo (X 1) sz P))) (mGo (X 1) sz P)))) dX8_readAccount_63 lX8_119 (d_M_go w a th tp sz sn gs ps X (mRd (upd ((mGo (X 1) sz P).2.2.2.2.2.2.2.2) ((2 + (4 * na)) + 0) (mKd (mGo (X 1) sz P))) (mGo (X 1) sz P)) hs (mGo_le hq)) rfl rfl 0 rfl rfl rfl rfl ?_
      refine V_aload_n dX8_readAccount_66 0 rfl ?_
      refine V_iconst 0 dX8_readAccount_67 (by decide) ?_
      refine V_selfE (ws' := c9 w a th tp sz sn gs ps X ((mTA (X 1) sz 0 (mGo (X 1) sz (mRd (upd ((mGo (X 1) sz P).2.2.2.2.2.2.2.2) ((2 + (4 * na)) + 0) (mKd (mGo (X 1) sz P))) (mGo (X 1) sz P)))).2)) dX8_readAccount_68 lX8_144 (d_M_takesAmount w a th tp sz sn gs ps X (mGo (X 1) sz (mRd (upd ((mGo (X 1) sz P).2.2.2.2.2.2.2.2) ((2 + (4 * na)) + 0) (mKd (mGo (X 1) sz P))) (mGo (X 1) sz P))) 0 hs (mGo_le (mGo_le hq)) mGo_so) rfl rfl 0 rfl rfl rfl rfl ?_
      refine V_ifne_b 76 dX8_readAccount_71 (by decide) (fun zc3 => ?_) (fun zc3 => ?_)
      · refine V_aload_n dX8_readAccount_76 0 rfl ?_
        refine V_get dX8_readAccount_77 fX8_79 0 rfl rfl ?_
        refine V_iload_n dX8_readAccount_80 1 rfl ?_
        refine V_iconst 1 dX8_readAccount_81 (by decide) ?_
        refine V_iadd dX8_readAccount_82 ?_
        refine V_casti (y := nI ((2 + (4 * na)) + 1)) (nI_add (2 + (4 * na)) 1) ?_
        refine V_aload_n dX8_readAccount_83 0 rfl ?_
        refine V_get dX8_readAccount_84 fX8_116 0 rfl rfl ?_
        refine V_iast dX8_readAccount_87 3 rfl rfl ((2 + (4 * na)) + 1) rfl (by omega) (ws' := c9 w a th tp sz sn gs ps X (mRd (upd (((mTA (X 1) sz 0 (mGo (X 1) sz (mRd (upd ((mGo (X 1) sz P).2.2.2.2.2.2.2.2) ((2 + (4 * na)) + 0) (mKd (mGo (X 1) sz P))) (mGo (X 1) sz P)))).2).2.2.2.2.2.2.2.2) ((2 + (4 * na)) + 1) (((mTA (X 1) sz 0 (mGo (X 1) sz (mRd (upd ((mGo (X 1) sz P).2.2.2.2.2.2.2.2) ((2 + (4 * na)) + 0) (mKd (mGo (X 1) sz P))) (mGo (X 1) sz P)))).2).2.2.2.2.2.2.2.1)) ((mTA (X 1) sz 0 (mGo (X 1) sz (mRd (upd ((mGo (X 1) sz P).2.2.2.2.2.2.2.2) ((2 + (4 * na)) + 0) (mKd (mGo (X 1) sz P))) (mGo (X 1) sz P)))).2))) rfl ?_
        refine V_aload_n dX8_readAccount_88 0 rfl ?_
        refine V_get dX8_readAccount_89 fX8_79 0 rfl rfl ?_
        refine V_iconst 0 dX8_readAccount_92 (by decide) ?_
        refine V_dup2 dX8_readAccount_93 rfl rfl ?_
        refine V_iald dX8_readAccount_94 3 rfl rfl 0 rfl (by omega) ?_
        refine V_casti (y := nI na) (show upd (rdO (mA3 (X 1) sz na P).2) (2 + 4 * na + 1) (gtO (mA3 (X 1) sz na P).2) 0 = nI na from by rw [upd_n (by omega), mA3_rd, upd_n (by omega)]; exact h0) ?_
        refine V_iconst 1 dX8_readAccount_95 (by decide) ?_
        refine V_iadd dX8_readAccount_96 ?_
        refine V_casti (y := nI (na + 1)) (nI_add na 1) ?_
        refine V_iast dX8_readAccount_97 3 rfl rfl 0 rfl (by omega) (ws' := c9 w a th tp sz sn gs ps X (mRd (upd (upd (((mTA (X 1) sz 0 (mGo (X 1) sz (mRd (upd ((mGo (X 1) sz P).2.2.2.2.2.2.2.2) ((2 + (4 * na)) + 0) (mKd (mGo (X 1) sz P))) (mGo (X 1) sz P)))).2).2.2.2.2.2.2.2.2) ((2 + (4 * na)) + 1) (((mTA (X 1) sz 0 (mGo (X 1) sz (mRd (upd ((mGo (X 1) sz P).2.2.2.2.2.2.2.2) ((2 + (4 * na)) + 0) (mKd (mGo (X 1) sz P))) (mGo (X 1) sz P)))).2).2.2.2.2.2.2.2.1)) 0 (nI (na + 1))) ((mTA (X 1) sz 0 (mGo (X 1) sz (mRd (upd ((mGo (X 1) sz P).2.2.2.2.2.2.2.2) ((2 + (4 * na)) + 0) (mKd (mGo (X 1) sz P))) (mGo (X 1) sz P)))).2))) rfl ?_
        refine V_aload_n dX8_readAccount_98 0 rfl ?_
        refine V_bipush 59 dX8_readAccount_99 (by decide) ?_
        refine V_selfR dX8_readAccount_101 lX8_122 (d_M_isSign w a th tp sz sn gs ps X (mRd (upd (upd (((mTA (X 1) sz 0 (mGo (X 1) sz (mRd (upd ((mGo (X 1) sz P).2.2.2.2.2.2.2.2) ((2 + (4 * na)) + 0) (mKd (mGo (X 1) sz P))) (mGo (X 1) sz P)))).2).2.2.2.2.2.2.2.2) ((2 + (4 * na)) + 1) (((mTA (X 1) sz 0 (mGo (X 1) sz (mRd (upd ((mGo (X 1) sz P).2.2.2.2.2.2.2.2) ((2 + (4 * na)) + 0) (mKd (mGo (X 1) sz P))) (mGo (X 1) sz P)))).2).2.2.2.2.2.2.2.1)) 0 (nI (na + 1))) ((mTA (X 1) sz 0 (mGo (X 1) sz (mRd (upd ((mGo (X 1) sz P).2.2.2.2.2.2.2.2) ((2 + (4 * na)) + 0) (mKd (mGo (X 1) sz P))) (mGo (X 1) sz P)))).2)) 59 (mTA_so mGo_so)) rfl rfl 0 rfl rfl rfl rfl ?_
        refine V_ifne_b 113 dX8_readAccount_104 (by decide) (fun zc4 => ?_) (fun zc4 => ?_)
        · refine V_aload_n dX8_readAccount_113 0 rfl ?_
          refine V_selfE (ws' := c9 w a th tp sz sn gs ps X (mGo (X 1) sz (mRd (upd (upd (((mTA (X 1) sz 0 (mGo (X 1) sz (mRd (upd ((mGo (X 1) sz P).2.2.2.2.2.2.2.2) ((2 + (4 * na)) + 0) (mKd (mGo (X 1) sz P))) (mGo (X 1) sz P)))).2).2.2.2.2.2.2.2.2) ((2 + (4 * na)) + 1) (((mTA (X 1) sz 0 (mGo (X 1) sz (mRd (upd ((mGo (X 1) sz P).2.2.2.2.2.2.2.2) ((2 + (4 * na)) + 0) (mKd (mGo (X 1) sz P))) (mGo (X 1) sz P)))).2).2.2.2.2.2.2.2.1)) 0 (nI (na + 1))) ((mTA (X 1) sz 0 (mGo (X 1) sz (mRd (upd ((mGo (X 1) sz P).2.2.2.2.2.2.2.2) ((2 + (4 * na)) + 0) (mKd (mGo (X 1) sz P))) (mGo (X 1) sz P)))).2)))) dX8_readAccount_114 lX8_119 (d_M_go w a th tp sz sn gs ps X (mRd (upd (upd (((mTA (X 1) sz 0 (mGo (X 1) sz (mRd (upd ((mGo (X 1) sz P).2.2.2.2.2.2.2.2) ((2 + (4 * na)) + 0) (mKd (mGo (X 1) sz P))) (mGo (X 1) sz P)))).2).2.2.2.2.2.2.2.2) ((2 + (4 * na)) + 1) (((mTA (X 1) sz 0 (mGo (X 1) sz (mRd (upd ((mGo (X 1) sz P).2.2.2.2.2.2.2.2) ((2 + (4 * na)) + 0) (mKd (mGo (X 1) sz P))) (mGo (X 1) sz P)))).2).2.2.2.2.2.2.2.1)) 0 (nI (na + 1))) ((mTA (X 1) sz 0 (mGo (X 1) sz (mRd (upd ((mGo (X 1) sz P).2.2.2.2.2.2.2.2) ((2 + (4 * na)) + 0) (mKd (mGo (X 1) sz P))) (mGo (X 1) sz P)))).2)) hs (mTA_le (mGo_le (mGo_le hq)))) rfl rfl 0 rfl rfl rfl rfl ?_
          refine V_iconst 1 dX8_readAccount_117 (by decide) ?_
          refine V_zret dX8_readAccount_118 rfl rfl (nb rfl) (nb rfl) ?_
          have hr : mRA (X 1) sz na P = (true, (mGo (X 1) sz (mRd (upd (upd (((mTA (X 1) sz 0 (mGo (X 1) sz (mRd (upd ((mGo (X 1) sz P).2.2.2.2.2.2.2.2) ((2 + (4 * na)) + 0) (mKd (mGo (X 1) sz P))) (mGo (X 1) sz P)))).2).2.2.2.2.2.2.2.2) ((2 + (4 * na)) + 1) (((mTA (X 1) sz 0 (mGo (X 1) sz (mRd (upd ((mGo (X 1) sz P).2.2.2.2.2.2.2.2) ((2 + (4 * na)) + 0) (mKd (mGo (X 1) sz P))) (mGo (X 1) sz P)))).2).2.2.2.2.2.2.2.1)) 0 (nI (na + 1))) ((mTA (X 1) sz 0 (mGo (X 1) sz (mRd (upd ((mGo (X 1) sz P).2.2.2.2.2.2.2.2) ((2 + (4 * na)) + 0) (mKd (mGo (X 1) sz P))) (mGo (X 1) sz P)))).2)))) := by grind [mRA, mA2, mA3, mA4]
          exact ⟨by rw [hr] <;> rfl, by rw [hr]⟩
        · refine V_aload_n dX8_readAccount_107 0 rfl ?_
          refine V_iconst 1 dX8_readAccount_108 (by decide) ?_
          refine V_selfE (ws' := c9 w a th tp sz sn gs ps X (mBad 1 (mRd (upd (upd (((mTA (X 1) sz 0 (mGo (X 1) sz (mRd (upd ((mGo (X 1) sz P).2.2.2.2.2.2.2.2) ((2 + (4 * na)) + 0) (mKd (mGo (X 1) sz P))) (mGo (X 1) sz P)))).2).2.2.2.2.2.2.2.2) ((2 + (4 * na)) + 1) (((mTA (X 1) sz 0 (mGo (X 1) sz (mRd (upd ((mGo (X 1) sz P).2.2.2.2.2.2.2.2) ((2 + (4 * na)) + 0) (mKd (mGo (X 1) sz P))) (mGo (X 1) sz P)))).2).2.2.2.2.2.2.2.1)) 0 (nI (na + 1))) ((mTA (X 1) sz 0 (mGo (X 1) sz (mRd (upd ((mGo (X 1) sz P).2.2.2.2.2.2.2.2) ((2 + (4 * na)) + 0) (mKd (mGo (X 1) sz P))) (mGo (X 1) sz P)))).2)))) dX8_readAccount_109 lX8_109 (d_M_bad w a th tp sz sn gs ps X (mRd (upd (upd (((mTA (X 1) sz 0 (mGo (X 1) sz (mRd (upd ((mGo (X 1) sz P).2.2.2.2.2.2.2.2) ((2 + (4 * na)) + 0) (mKd (mGo (X 1) sz P))) (mGo (X 1) sz P)))).2).2.2.2.2.2.2.2.2) ((2 + (4 * na)) + 1) (((mTA (X 1) sz 0 (mGo (X 1) sz (mRd (upd ((mGo (X 1) sz P).2.2.2.2.2.2.2.2) ((2 + (4 * na)) + 0) (mKd (mGo (X 1) sz P))) (mGo (X 1) sz P)))).2).2.2.2.2.2.2.2.1)) 0 (nI (na + 1))) ((mTA (X 1) sz 0 (mGo (X 1) sz (mRd (upd ((mGo (X 1) sz P).2.2.2.2.2.2.2.2) ((2 + (4 * na)) + 0) (mKd (mGo (X 1) sz P))) (mGo (X 1) sz P)))).2)) 1 (mTA_so mGo_so)) rfl rfl 0 rfl rfl rfl rfl ?_
          refine V_bret dX8_readAccount_112 rfl (nb rfl) (nb rfl) ?_
          have hr : mRA (X 1) sz na P = (false, (mBad 1 (mRd (upd (upd (((mTA (X 1) sz 0 (mGo (X 1) sz (mRd (upd ((mGo (X 1) sz P).2.2.2.2.2.2.2.2) ((2 + (4 * na)) + 0) (mKd (mGo (X 1) sz P))) (mGo (X 1) sz P)))).2).2.2.2.2.2.2.2.2) ((2 + (4 * na)) + 1) (((mTA (X 1) sz 0 (mGo (X 1) sz (mRd (upd ((mGo (X 1) sz P).2.2.2.2.2.2.2.2) ((2 + (4 * na)) + 0) (mKd (mGo (X 1) sz P))) (mGo (X 1) sz P)))).2).2.2.2.2.2.2.2.1)) 0 (nI (na + 1))) ((mTA (X 1) sz 0 (mGo (X 1) sz (mRd (upd ((mGo (X 1) sz P).2.2.2.2.2.2.2.2) ((2 + (4 * na)) + 0) (mKd (mGo (X 1) sz P))) (mGo (X 1) sz P)))).2)))) := by grind [mRA, mA2, mA3, mA4]
          exact ⟨by rw [hr] <;> rfl, by rw [hr]⟩
      · refine V_iconst 0 dX8_readAccount_74 (by decide) ?_
        refine V_zret dX8_readAccount_75 rfl rfl (nb rfl) (nb rfl) ?_
        have hr : mRA (X 1) sz na P = (false, ((mTA (X 1) sz 0 (mGo (X 1) sz (mRd (upd ((mGo (X 1) sz P).2.2.2.2.2.2.2.2) ((2 + (4 * na)) + 0) (mKd (mGo (X 1) sz P))) (mGo (X 1) sz P)))).2)) := by grind [mRA, mA2, mA3, mA4]
        exact ⟨by rw [hr] <;> rfl, by rw [hr]⟩
    · refine V_aload_n dX8_readAccount_56 0 rfl ?_
      refine V_iconst 1 dX8_readAccount_57 (by decide) ?_
      refine V_selfE (ws' := c9 w a th tp sz sn gs ps X (mBad 1 (mRd (upd ((mGo (X 1) sz P).2.2.2.2.2.2.2.2) ((2 + (4 * na)) + 0) (mKd (mGo (X 1) sz P))) (mGo (X 1) sz P)))) dX8_readAccount_58 lX8_109 (d_M_bad w a th tp sz sn gs ps X (mRd (upd ((mGo (X 1) sz P).2.2.2.2.2.2.2.2) ((2 + (4 * na)) + 0) (mKd (mGo (X 1) sz P))) (mGo (X 1) sz P)) 1 mGo_so) rfl rfl 0 rfl rfl rfl rfl ?_
      refine V_bret dX8_readAccount_61 rfl (nb rfl) (nb rfl) ?_
      have hr : mRA (X 1) sz na P = (false, (mBad 1 (mRd (upd ((mGo (X 1) sz P).2.2.2.2.2.2.2.2) ((2 + (4 * na)) + 0) (mKd (mGo (X 1) sz P))) (mGo (X 1) sz P)))) := by grind [mRA, mA2, mA3, mA4]
      exact ⟨by rw [hr] <;> rfl, by rw [hr]⟩
  · refine V_aload_n dX8_readAccount_11 0 rfl ?_
    refine V_iconst 3 dX8_readAccount_12 (by decide) ?_
    refine V_selfE (ws' := c9 w a th tp sz sn gs ps X (mBad 3 P)) dX8_readAccount_13 lX8_109 (d_M_bad w a th tp sz sn gs ps X P 3 hso) rfl rfl 0 rfl rfl rfl rfl ?_
    refine V_bret dX8_readAccount_16 rfl (nb rfl) (nb rfl) ?_
    have hr : mRA (X 1) sz na P = (false, (mBad 3 P)) := by grind [mRA, mA2, mA3, mA4]
    exact ⟨by rw [hr] <;> rfl, by rw [hr]⟩

def mL1 (e nl : Nat) (P : MP) : MP := mRd (upd (rdO P) (e + 3 + 2 * nl) P.2.2.2.1) P
def mL2 (t : Nat → Int32) (n e nl : Nat) (P : MP) : Bool × MP := mTA t n 1 (mGo t n (mL1 e nl P))
def mL3 (t : Nat → Int32) (n e nl : Nat) (P : MP) : MP := mRd (upd (upd (rdO (mL2 t n e nl P).2) (e + 3 + 2 * nl + 1) (gtO (mL2 t n e nl P).2)) (e + 2) (nI (nl + 1))) (mL2 t n e nl P).2
def mRL (t : Nat → Int32) (n na e nl : Nat) (P : MP) : Bool × MP := if P.2.2.1 = 3 then (if P.2.2.2.1 < nI na then (if nl = 6 then (false, mBad 3 P) else if (mL2 t n e nl P).1 then (true, mL3 t n e nl P) else (false, (mL2 t n e nl P).2)) else (false, mBad 2 P)) else (false, mBad 1 P)
theorem mL2_rd {t : Nat → Int32} {n e nl : Nat} {P : MP} : rdO (mL2 t n e nl P).2 = upd (rdO P) (e + 3 + 2 * nl) P.2.2.2.1 := mTA_rd
theorem mRL_ok {t : Nat → Int32} {n na e nl : Nat} {P : MP} (he : 50 ≤ e) (hq : P.1 ≤ n) (h : (mRL t n na e nl P).1 = true) (hl : nl ≤ 6) : nl < 6 ∧ rdO (mRL t n na e nl P).2 0 = rdO P 0 ∧ rdO (mRL t n na e nl P).2 1 = rdO P 1 ∧ rdO (mRL t n na e nl P).2 (e + 2) = nI (nl + 1) ∧ (mRL t n na e nl P).2.1 ≤ n ∧ (mRL t n na e nl P).2.2.2.1 ≤ 4 := by
  unfold mRL at h ⊢
  split at h
  · split at h
    · split at h
      · exact absurd h (by simp)
      · split at h
        · next c1 c2 c3 c4 =>
          rw [if_pos c1, if_pos c2, if_neg c3, if_pos c4]
          refine ⟨by omega, ?_, ?_, upd_s, mTA_le (mGo_le hq), mTA_so mGo_so⟩
          · show upd (upd (rdO (mL2 t n e nl P).2) (e + 3 + 2 * nl + 1) (gtO (mL2 t n e nl P).2)) (e + 2) (nI (nl + 1)) 0 = _
            rw [upd_n (by omega), upd_n (by omega), mL2_rd, upd_n (by omega)]
          · show upd (upd (rdO (mL2 t n e nl P).2) (e + 3 + 2 * nl + 1) (gtO (mL2 t n e nl P).2)) (e + 2) (nI (nl + 1)) 1 = _
            rw [upd_n (by omega), upd_n (by omega), mL2_rd, upd_n (by omega)]
        · exact absurd h (by simp)
    · exact absurd h (by simp)
  · exact absurd h (by simp)

set_option maxRecDepth 100000 in
set_option maxHeartbeats 4000000 in
theorem d_M_readLine (w : vWd) (a : Nat → Nat) (th : Int32) (tp sz sn gs ps : Nat) (X : Nat → Nat → Int32) (P : MP) (na e nl : Nat) (hna : na ≤ 12) (h0 : rdO P 0 = nI na) (he : 50 ≤ e) (he2 : e + 15 ≤ 500) (hN : rdO P (e + 2) = nI nl) (hnl : nl ≤ 6) (hs : sz ≤ 640) (hq : P.1 ≤ sz) (hso : P.2.2.1 ≤ 4) : Ct w mX8_readLine 4 0 0 [.ref (a 0), .int (nI e)] (c9 w a th tp sz sn gs ps X P) (qE (some (.int (bi (mRL (X 1) sz na e nl P).1))) (c9 w a th tp sz sn gs ps X (mRL (X 1) sz na e nl P).2)) := by
  refine Ct.of (L := [(0, .ref (a 0)), (1, .int (nI e))]) (by decide) rfl rfl ?_
  refine V_aload_n dX8_readLine_0 0 rfl ?_
  refine V_get dX8_readLine_1 fX8_27 0 rfl rfl ?_
  refine V_iconst 3 dX8_readLine_4 (by decide) ?_
  refine V_icmp_eq_n P.2.2.1 3 14 dX8_readLine_5 (by decide) (by omega) (by omega) (fun zc1 => ?_) (fun zc1 => ?_)
  · refine V_aload_n dX8_readLine_14 0 rfl ?_
    refine V_get dX8_readLine_15 fX8_41 0 rfl rfl ?_
    refine V_aload_n dX8_readLine_18 0 rfl ?_
    refine V_get dX8_readLine_19 fX8_79 0 rfl rfl ?_
    refine V_iconst 0 dX8_readLine_22 (by decide) ?_
    refine V_iald dX8_readLine_23 3 rfl rfl 0 rfl (by omega) ?_
    refine V_casti (y := nI na) h0 ?_
    refine V_icmp_lt 33 dX8_readLine_24 (by decide) (fun zc2 => ?_) (fun zc2 => ?_)
    · refine V_aload_n dX8_readLine_33 0 rfl ?_
      refine V_get dX8_readLine_34 fX8_79 0 rfl rfl ?_
      refine V_iload_n dX8_readLine_37 1 rfl ?_
      refine V_iconst 2 dX8_readLine_38 (by decide) ?_
      refine V_iadd dX8_readLine_39 ?_
      refine V_casti (y := nI (e + 2)) (nI_add e 2) ?_
      refine V_iald dX8_readLine_40 3 rfl rfl (e + 2) rfl (by omega) ?_
      refine V_casti (y := nI nl) hN ?_
      refine V_bipush 6 dX8_readLine_41 (by decide) ?_
      refine V_icmp_ne_n nl 6 52 dX8_readLine_43 (by decide) (by omega) (by omega) (fun zc3 => ?_) (fun zc3 => ?_)
      · refine V_iload_n dX8_readLine_52 1 rfl ?_
        refine V_iconst 3 dX8_readLine_53 (by decide) ?_
        refine V_iadd dX8_readLine_54 ?_
        refine V_casti (y := nI (e + 3)) (nI_add e 3) ?_
        refine V_iconst 2 dX8_readLine_55 (by decide) ?_
        refine V_aload_n dX8_readLine_56 0 rfl ?_
        refine V_get dX8_readLine_57 fX8_79 0 rfl rfl ?_
        refine V_iload_n dX8_readLine_60 1 rfl ?_
        refine V_iconst 2 dX8_readLine_61 (by decide) ?_
        refine V_iadd dX8_readLine_62 ?_
        refine V_casti (y := nI (e + 2)) (nI_add e 2) ?_
        refine V_iald dX8_readLine_63 3 rfl rfl (e + 2) rfl (by omega) ?_
        refine V_casti (y := nI nl) hN ?_
        refine V_imul dX8_readLine_64 ?_
        refine V_casti (y := nI (2 * nl)) (pk_mul 2 nl) ?_
        refine V_iadd dX8_readLine_65 ?_
        refine V_casti (y := nI (e + 3 + (2 * nl))) (nI_add (e + 3) (2 * nl)) ?_
        refine V_istore_n dX8_readLine_66 rfl (L' := [(0, .ref (a 0)), (1, .int (nI e)), (2, .int (nI (e + 3 + (2 * nl))))]) rfl ?_
        refine V_aload_n dX8_readLine_67 0 rfl ?_
        refine V_get dX8_readLine_68 fX8_79 0 rfl rfl ?_
        refine V_iload_n dX8_readLine_71 2 rfl ?_
        refine V_aload_n dX8_readLine_72 0 rfl ?_
        refine V_get dX8_readLine_73 fX8_41 0 rfl rfl ?_
        refine V_iast dX8_readLine_76 3 rfl rfl (e + 3 + (2 * nl)) rfl (by omega) (ws' := c9 w a th tp sz sn gs ps X (mRd (upd P.2.2.2.2.2.2.2.2 (e + 3 + (2 * nl)) P.2.2.2.1) P)) rfl ?_
        refine V_aload_n dX8_readLine_77 0 rfl ?_
        refine V_selfE (ws' := c9 w a th tp sz sn gs ps X (mGo (X 1) sz (mRd (upd P.2.2.2.2.2.2.2.2 (e + 3 + (2 * nl)) P.2.2.2.1) P))) dX8_readLine_78 lX8_119 (d_M_go w a th tp sz sn gs ps X (mRd (upd P.2.2.2.2.2.2.2.2 (e + 3 + (2 * nl)) P.2.2.2.1) P) hs hq) rfl rfl 0 rfl rfl rfl rfl ?_
        refine V_aload_n dX8_readLine_81 0 rfl ?_
        refine V_iconst 1 dX8_readLine_82 (by decide) ?_
        refine V_selfE (ws' := c9 w a th tp sz sn gs ps X ((mTA (X 1) sz 1 (mGo (X 1) sz (mRd (upd P.2.2.2.2.2.2.2.2 (e + 3 + (2 * nl)) P.2.2.2.1) P))).2)) dX8_readLine_83 lX8_144 (d_M_takesAmount w a th tp sz sn gs ps X (mGo (X 1) sz (mRd (upd P.2.2.2.2.2.2.2.2 (e + 3 + (2 * nl)) P.2.2.2.1) P)) 1 hs (mGo_le hq) mGo_so) rfl rfl 0 rfl rfl rfl rfl ?_
        refine V_ifne_b 91 dX8_readLine_86 (by decide) (fun zc4 => ?_) (fun zc4 => ?_)
        · refine V_aload_n dX8_readLine_91 0 rfl ?_
          refine V_get dX8_readLine_92 fX8_79 0 rfl rfl ?_
          refine V_iload_n dX8_readLine_95 2 rfl ?_
          refine V_iconst 1 dX8_readLine_96 (by decide) ?_
          refine V_iadd dX8_readLine_97 ?_
          refine V_casti (y := nI ((e + 3 + (2 * nl)) + 1)) (nI_add (e + 3 + (2 * nl)) 1) ?_
          refine V_aload_n dX8_readLine_98 0 rfl ?_
          refine V_get dX8_readLine_99 fX8_116 0 rfl rfl ?_
          refine V_iast dX8_readLine_102 3 rfl rfl ((e + 3 + (2 * nl)) + 1) rfl (by omega) (ws' := c9 w a th tp sz sn gs ps X (mRd (upd (((mTA (X 1) sz 1 (mGo (X 1) sz (mRd (upd P.2.2.2.2.2.2.2.2 (e + 3 + (2 * nl)) P.2.2.2.1) P))).2).2.2.2.2.2.2.2.2) ((e + 3 + (2 * nl)) + 1) (((mTA (X 1) sz 1 (mGo (X 1) sz (mRd (upd P.2.2.2.2.2.2.2.2 (e + 3 + (2 * nl)) P.2.2.2.1) P))).2).2.2.2.2.2.2.2.1)) ((mTA (X 1) sz 1 (mGo (X 1) sz (mRd (upd P.2.2.2.2.2.2.2.2 (e + 3 + (2 * nl)) P.2.2.2.1) P))).2))) rfl ?_
          refine V_aload_n dX8_readLine_103 0 rfl ?_
          refine V_get dX8_readLine_104 fX8_79 0 rfl rfl ?_
          refine V_iload_n dX8_readLine_107 1 rfl ?_
          refine V_iconst 2 dX8_readLine_108 (by decide) ?_
          refine V_iadd dX8_readLine_109 ?_
          refine V_casti (y := nI (e + 2)) (nI_add e 2) ?_
          refine V_dup2 dX8_readLine_110 rfl rfl ?_
          refine V_iald dX8_readLine_111 3 rfl rfl (e + 2) rfl (by omega) ?_
          refine V_casti (y := nI nl) (show upd (rdO (mL2 (X 1) sz e nl P).2) (e + 3 + 2 * nl + 1) (gtO (mL2 (X 1) sz e nl P).2) (e + 2) = nI nl from by rw [upd_n (by omega), mL2_rd, upd_n (by omega)]; exact hN) ?_
          refine V_iconst 1 dX8_readLine_112 (by decide) ?_
          refine V_iadd dX8_readLine_113 ?_
          refine V_casti (y := nI (nl + 1)) (nI_add nl 1) ?_
          refine V_iast dX8_readLine_114 3 rfl rfl (e + 2) rfl (by omega) (ws' := c9 w a th tp sz sn gs ps X (mRd (upd (upd (((mTA (X 1) sz 1 (mGo (X 1) sz (mRd (upd P.2.2.2.2.2.2.2.2 (e + 3 + (2 * nl)) P.2.2.2.1) P))).2).2.2.2.2.2.2.2.2) ((e + 3 + (2 * nl)) + 1) (((mTA (X 1) sz 1 (mGo (X 1) sz (mRd (upd P.2.2.2.2.2.2.2.2 (e + 3 + (2 * nl)) P.2.2.2.1) P))).2).2.2.2.2.2.2.2.1)) (e + 2) (nI (nl + 1))) ((mTA (X 1) sz 1 (mGo (X 1) sz (mRd (upd P.2.2.2.2.2.2.2.2 (e + 3 + (2 * nl)) P.2.2.2.1) P))).2))) rfl ?_
          refine V_iconst 1 dX8_readLine_115 (by decide) ?_
          refine V_zret dX8_readLine_116 rfl rfl (nb rfl) (nb rfl) ?_
          have hr : mRL (X 1) sz na e nl P = (true, (mRd (upd (upd (((mTA (X 1) sz 1 (mGo (X 1) sz (mRd (upd P.2.2.2.2.2.2.2.2 (e + 3 + (2 * nl)) P.2.2.2.1) P))).2).2.2.2.2.2.2.2.2) ((e + 3 + (2 * nl)) + 1) (((mTA (X 1) sz 1 (mGo (X 1) sz (mRd (upd P.2.2.2.2.2.2.2.2 (e + 3 + (2 * nl)) P.2.2.2.1) P))).2).2.2.2.2.2.2.2.1)) (e + 2) (nI (nl + 1))) ((mTA (X 1) sz 1 (mGo (X 1) sz (mRd (upd P.2.2.2.2.2.2.2.2 (e + 3 + (2 * nl)) P.2.2.2.1) P))).2))) := by grind [mRL, mL1, mL2, mL3]
          exact ⟨by rw [hr] <;> rfl, by rw [hr]⟩
        · refine V_iconst 0 dX8_readLine_89 (by decide) ?_
          refine V_zret dX8_readLine_90 rfl rfl (nb rfl) (nb rfl) ?_
          have hr : mRL (X 1) sz na e nl P = (false, ((mTA (X 1) sz 1 (mGo (X 1) sz (mRd (upd P.2.2.2.2.2.2.2.2 (e + 3 + (2 * nl)) P.2.2.2.1) P))).2)) := by grind [mRL, mL1, mL2, mL3]
          exact ⟨by rw [hr] <;> rfl, by rw [hr]⟩
      · refine V_aload_n dX8_readLine_46 0 rfl ?_
        refine V_iconst 3 dX8_readLine_47 (by decide) ?_
        refine V_selfE (ws' := c9 w a th tp sz sn gs ps X (mBad 3 P)) dX8_readLine_48 lX8_109 (d_M_bad w a th tp sz sn gs ps X P 3 hso) rfl rfl 0 rfl rfl rfl rfl ?_
        refine V_bret dX8_readLine_51 rfl (nb rfl) (nb rfl) ?_
        have hr : mRL (X 1) sz na e nl P = (false, (mBad 3 P)) := by grind [mRL, mL1, mL2, mL3]
        exact ⟨by rw [hr] <;> rfl, by rw [hr]⟩
    · refine V_aload_n dX8_readLine_27 0 rfl ?_
      refine V_iconst 2 dX8_readLine_28 (by decide) ?_
      refine V_selfE (ws' := c9 w a th tp sz sn gs ps X (mBad 2 P)) dX8_readLine_29 lX8_109 (d_M_bad w a th tp sz sn gs ps X P 2 hso) rfl rfl 0 rfl rfl rfl rfl ?_
      refine V_bret dX8_readLine_32 rfl (nb rfl) (nb rfl) ?_
      have hr : mRL (X 1) sz na e nl P = (false, (mBad 2 P)) := by grind [mRL, mL1, mL2, mL3]
      exact ⟨by rw [hr] <;> rfl, by rw [hr]⟩
  · refine V_aload_n dX8_readLine_8 0 rfl ?_
    refine V_iconst 1 dX8_readLine_9 (by decide) ?_
    refine V_selfE (ws' := c9 w a th tp sz sn gs ps X (mBad 1 P)) dX8_readLine_10 lX8_109 (d_M_bad w a th tp sz sn gs ps X P 1 hso) rfl rfl 0 rfl rfl rfl rfl ?_
    refine V_bret dX8_readLine_13 rfl (nb rfl) (nb rfl) ?_
    have hr : mRL (X 1) sz na e nl P = (false, (mBad 1 P)) := by grind [mRL, mL1, mL2, mL3]
    exact ⟨by rw [hr] <;> rfl, by rw [hr]⟩
