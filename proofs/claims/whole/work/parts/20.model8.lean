/-! 20: the reference: its figures -/
def qM (w : vWd) (a : Nat → Nat) (th : Int32) (Z : ZT) (sn : Nat) (X0 : Nat → Nat → Int32) (v : Int32) : Option Value → va_W → Prop := fun r x => r = some (.int v) ∧ ∃ (gs ps : Nat) (X : Nat → Nat → Int32), x = cG w a th Z sn gs ps X ∧ sameX X0 X
def mkF (N : Nat → Int32) (np : Nat → Nat) (cr de : Nat → Nat → Nat) (so f t : Int32) (nj : Nat) : Int32 := iorf (fun j => if mCnt N j f t then iorf (fun k => if mCls (N (2 + 4 * cr j k)) (N (2 + 4 * de j k)) = so then (1 : Int32) <<< (nI j &&& 31) else 0) (np j) else 0) nj
def dlF (N : Nat → Int32) (np : Nat → Nat) (cr de : Nat → Nat → Nat) (mv : Nat → Nat → Int32) (ki ot f t : Int32) (nj : Nat) : Int32 := isum (fun j => if mCnt N j f t then isum (fun k => if ((N (2 + 4 * cr j k)) = ki ∧ (N (2 + 4 * de j k)) = ot) ∨ ((N (2 + 4 * cr j k)) = ot ∧ (N (2 + 4 * de j k)) = ki) then mv j k else 0) (np j) else 0) nj
def apF (N : Nat → Int32) (np : Nat → Nat) (cr de : Nat → Nat → Nat) (mv : Nat → Nat → Int32) (f t : Int32) (nj : Nat) : Int32 := isum (fun j => if mCnt N j f t then isum (fun k => if mCls (N (2 + 4 * cr j k)) (N (2 + 4 * de j k)) ≠ 4 ∨ (decide ((N (2 + 4 * cr j k)) = 1 ∨ (N (2 + 4 * cr j k)) = 2) = decide ((N (2 + 4 * de j k)) = 1 ∨ (N (2 + 4 * de j k)) = 2)) then 0 else if (N (2 + 4 * cr j k)) = 1 ∨ (N (2 + 4 * cr j k)) = 2 then -mv j k else mv j k) (np j) else 0) nj
def diF (N : Nat → Int32) (np : Nat → Nat) (cr de : Nat → Nat → Nat) (mv : Nat → Nat → Int32) (so f t : Int32) (nj : Nat) : Int32 := isum (fun j => if mCnt N j f t then isum (fun k => if mCls (N (2 + 4 * cr j k)) (N (2 + 4 * de j k)) = so ∧ (N (2 + 4 * de j k)) = 0 then mv j k else 0) (np j) else 0) nj
def doF (N : Nat → Int32) (np : Nat → Nat) (cr de : Nat → Nat → Nat) (mv : Nat → Nat → Int32) (so f t : Int32) (nj : Nat) : Int32 := isum (fun j => if mCnt N j f t then isum (fun k => if mCls (N (2 + 4 * cr j k)) (N (2 + 4 * de j k)) = so ∧ (N (2 + 4 * de j k)) ≠ 0 then mv j k else 0) (np j) else 0) nj
def crF (N : Nat → Int32) (nl : Nat → Nat) (nj : Nat) (ki f t : Int32) : Nat → Int32
  | 0 => 0
  | k + 1 => if N (2 + 4 * k) = ki then crF N nl nj ki f t k - mMv N nl (nI k) f t nj else crF N nl nj ki f t k
theorem e_M_refuse (w : vWd) (a : Nat → Nat) (th : Int32) (Z : ZT) (sn gs ps : Nat) (X : Nat → Nat → Int32) : Ct w mX8_refuse 0 0 0 [.ref (a 0)] (cG w a th Z sn gs ps X) (qE (some (.int 0)) (cG w a 1 Z sn gs ps X)) := c_M_refuse w a th Z.1 Z.2.1 Z.2.2.1 Z.2.2.2.1 Z.2.2.2.2.1 Z.2.2.2.2.2.1 Z.2.2.2.2.2.2.1 Z.2.2.2.2.2.2.2.1 Z.2.2.2.2.2.2.2.2.1 sn Z.2.2.2.2.2.2.2.2.2 gs ps X
theorem v_out5 {x : Int32} (h0 : ¬ x = 0) (h1 : ¬ x = 1) (h2 : ¬ x = 2) (h3 : ¬ x = 3) (h4 : ¬ x = 4) (h5 : ¬ x = 5) : x.toInt < 0 ∨ 5 < x.toInt := by
  simp only [← Int32.toInt_inj] at *
  have e0 : (0 : Int32).toInt = 0 := rfl
  have e1 : (1 : Int32).toInt = 1 := rfl
  have e2 : (2 : Int32).toInt = 2 := rfl
  have e3 : (3 : Int32).toInt = 3 := rfl
  have e4 : (4 : Int32).toInt = 4 := rfl
  have e5 : (5 : Int32).toInt = 5 := rfl
  omega
theorem v_out4 {x : Int32} (h0 : ¬ x = 0) (h1 : ¬ x = 1) (h2 : ¬ x = 2) (h3 : ¬ x = 3) (h4 : ¬ x = 4) : x.toInt < 0 ∨ 4 < x.toInt := by
  simp only [← Int32.toInt_inj] at *
  have e0 : (0 : Int32).toInt = 0 := rfl
  have e1 : (1 : Int32).toInt = 1 := rfl
  have e2 : (2 : Int32).toInt = 2 := rfl
  have e3 : (3 : Int32).toInt = 3 := rfl
  have e4 : (4 : Int32).toInt = 4 := rfl
  omega

set_option maxRecDepth 100000 in
set_option maxHeartbeats 4000000 in
theorem e_M_makes (w : vWd) (a : Nat → Nat) (th : Int32) (Z : ZT) (sn gs ps : Nat) (X : Nat → Nat → Int32) (so f t : Int32) (na nj : Nat) (nl : Nat → Nat) (ac : Nat → Nat → Nat) (hN : okN (X 11) na nj nl ac) (np ng : Nat → Nat) (cr de : Nat → Nat → Nat) (mv gr : Nat → Nat → Int32) (hP : okP (X 11) na nj nl np ng cr de mv gr) : Ct w mX8_makes 13 0 0 [.ref (a 0), .int so, .int f, .int t] (cG w a th Z sn gs ps X) (qM w a 0 Z sn X (if (isInB so 0 3 && arP f t) = true then mkF (X 11) np cr de so f t nj else -1)) := by
  refine Ct.of (L := [(0, .ref (a 0)), (1, .int so), (2, .int f), (3, .int t)]) (by decide) rfl rfl ?_
  refine V_aload_n dX8_makes_0 0 rfl ?_
  refine V_iconst 0 dX8_makes_1 (by decide) ?_
  refine V_put dX8_makes_2 pX8_1 0 rfl rfl rfl rfl (ws' := cG w a 0 Z sn gs ps X) rfl ?_
  refine V_iload_n dX8_makes_5 1 rfl ?_
  refine V_purS dX8_makes_6 lX8_224 (c_M_isClass w so) rfl rfl rfl ?_
  refine V_ifeq_b 20 dX8_makes_9 (by decide) (fun zc1 => ?_) (fun zc1 => ?_)
  · refine V_iconst (-1) dX8_makes_20 (by decide) ?_
    refine V_iret dX8_makes_21 rfl (nb rfl) (nb rfl) ?_
    refine ⟨?_, gs, ps, X, rfl, sameX.rf X⟩
    rw [if_neg (by grind)]
  · refine V_iload_n dX8_makes_12 2 rfl ?_
    refine V_iload_n dX8_makes_13 3 rfl ?_
    refine V_purS dX8_makes_14 lX8_227 (c_M_arePeriods w f t) rfl rfl rfl ?_
    refine V_ifne_b 22 dX8_makes_17 (by decide) (fun zc2 => ?_) (fun zc2 => ?_)
    · refine V_iconst 0 dX8_makes_22 (by decide) ?_
      refine V_istore dX8_makes_23 rfl (L' := [(0, .ref (a 0)), (1, .int so), (2, .int f), (3, .int t), (4, .int 0)]) rfl ?_
      refine V_iconst 0 dX8_makes_25 (by decide) ?_
      refine V_istore dX8_makes_26 rfl (L' := [(0, .ref (a 0)), (1, .int so), (2, .int f), (3, .int t), (4, .int 0), (5, .int 0)]) rfl ?_
      rw [if_pos (by grind)]
      exact lp_M_makes w a 0 Z sn X (X 11) rfl so f t na nj nl ac hN np ng cr de mv gr hP (nj + 1) 0 gs ps X (by omega) (by omega) (sameX.rf X)
    · refine V_iconst (-1) dX8_makes_20 (by decide) ?_
      refine V_iret dX8_makes_21 rfl (nb rfl) (nb rfl) ?_
      refine ⟨?_, gs, ps, X, rfl, sameX.rf X⟩
      rw [if_neg (by grind)]

set_option maxRecDepth 100000 in
set_option maxHeartbeats 4000000 in
theorem e_M_deals (w : vWd) (a : Nat → Nat) (th : Int32) (Z : ZT) (sn gs ps : Nat) (X : Nat → Nat → Int32) (ki ot f t : Int32) (na nj : Nat) (nl : Nat → Nat) (ac : Nat → Nat → Nat) (hN : okN (X 11) na nj nl ac) (np ng : Nat → Nat) (cr de : Nat → Nat → Nat) (mv gr : Nat → Nat → Int32) (hP : okP (X 11) na nj nl np ng cr de mv gr) : Ct w mX8_deals 13 0 0 [.ref (a 0), .int ki, .int ot, .int f, .int t] (cG w a th Z sn gs ps X) (qM w a 0 Z sn X (if (isInB ki 1 5 && isInB ot ki 5 && arP f t) = true then dlF (X 11) np cr de mv ki ot f t nj else -1)) := by
  refine Ct.of (L := [(0, .ref (a 0)), (1, .int ki), (2, .int ot), (3, .int f), (4, .int t)]) (by decide) rfl rfl ?_
  refine V_aload_n dX8_deals_0 0 rfl ?_
  refine V_iconst 0 dX8_deals_1 (by decide) ?_
  refine V_put dX8_deals_2 pX8_1 0 rfl rfl rfl rfl (ws' := cG w a 0 Z sn gs ps X) rfl ?_
  refine V_iload_n dX8_deals_5 1 rfl ?_
  refine V_iconst 1 dX8_deals_6 (by decide) ?_
  refine V_iconst 5 dX8_deals_7 (by decide) ?_
  refine V_purS dX8_deals_8 lX8_112 (c_M_isIn w ki 1 5) rfl rfl rfl ?_
  refine V_ifeq_b 32 dX8_deals_11 (by decide) (fun zc1 => ?_) (fun zc1 => ?_)
  · refine V_iconst (-1) dX8_deals_32 (by decide) ?_
    refine V_iret dX8_deals_33 rfl (nb rfl) (nb rfl) ?_
    refine ⟨?_, gs, ps, X, rfl, sameX.rf X⟩
    rw [if_neg (by grind)]
  · refine V_iload_n dX8_deals_14 2 rfl ?_
    refine V_iload_n dX8_deals_15 1 rfl ?_
    refine V_iconst 5 dX8_deals_16 (by decide) ?_
    refine V_purS dX8_deals_17 lX8_112 (c_M_isIn w ot ki 5) rfl rfl rfl ?_
    refine V_ifeq_b 32 dX8_deals_20 (by decide) (fun zc2 => ?_) (fun zc2 => ?_)
    · refine V_iconst (-1) dX8_deals_32 (by decide) ?_
      refine V_iret dX8_deals_33 rfl (nb rfl) (nb rfl) ?_
      refine ⟨?_, gs, ps, X, rfl, sameX.rf X⟩
      rw [if_neg (by grind)]
    · refine V_iload_n dX8_deals_23 3 rfl ?_
      refine V_iload dX8_deals_24 4 rfl ?_
      refine V_purS dX8_deals_26 lX8_227 (c_M_arePeriods w f t) rfl rfl rfl ?_
      refine V_ifne_b 34 dX8_deals_29 (by decide) (fun zc3 => ?_) (fun zc3 => ?_)
      · refine V_iconst 0 dX8_deals_34 (by decide) ?_
        refine V_istore dX8_deals_35 rfl (L' := [(0, .ref (a 0)), (1, .int ki), (2, .int ot), (3, .int f), (4, .int t), (5, .int 0)]) rfl ?_
        refine V_iconst 0 dX8_deals_37 (by decide) ?_
        refine V_istore dX8_deals_38 rfl (L' := [(0, .ref (a 0)), (1, .int ki), (2, .int ot), (3, .int f), (4, .int t), (5, .int 0), (6, .int 0)]) rfl ?_
        rw [if_pos (by grind)]
        exact lp_M_deals w a 0 Z sn X (X 11) rfl ki ot f t na nj nl ac hN np ng cr de mv gr hP (nj + 1) 0 gs ps X (by omega) (by omega) (sameX.rf X)
      · refine V_iconst (-1) dX8_deals_32 (by decide) ?_
        refine V_iret dX8_deals_33 rfl (nb rfl) (nb rfl) ?_
        refine ⟨?_, gs, ps, X, rfl, sameX.rf X⟩
        rw [if_neg (by grind)]

set_option maxRecDepth 100000 in
set_option maxHeartbeats 4000000 in
theorem e_M_direct (w : vWd) (a : Nat → Nat) (th : Int32) (Z : ZT) (sn gs ps : Nat) (X : Nat → Nat → Int32) (so f t wh : Int32) (na nj : Nat) (nl : Nat → Nat) (ac : Nat → Nat → Nat) (hN : okN (X 11) na nj nl ac) (np ng : Nat → Nat) (cr de : Nat → Nat → Nat) (mv gr : Nat → Nat → Int32) (hP : okP (X 11) na nj nl np ng cr de mv gr) : Ct w mX8_direct 13 0 0 [.ref (a 0), .int so, .int f, .int t, .int wh] (cG w a th Z sn gs ps X) (qM w a 0 Z sn X (if (isInB so 0 3 && arP f t && isInB wh 0 2) = true then (if wh = 0 then diF (X 11) np cr de mv so f t nj else if wh = 1 then doF (X 11) np cr de mv so f t nj else diF (X 11) np cr de mv so f t nj - doF (X 11) np cr de mv so f t nj) else -100000000)) := by
  refine Ct.of (L := [(0, .ref (a 0)), (1, .int so), (2, .int f), (3, .int t), (4, .int wh)]) (by decide) rfl rfl ?_
  refine V_aload_n dX8_direct_0 0 rfl ?_
  refine V_iconst 0 dX8_direct_1 (by decide) ?_
  refine V_put dX8_direct_2 pX8_1 0 rfl rfl rfl rfl (ws' := cG w a 0 Z sn gs ps X) rfl ?_
  refine V_iload_n dX8_direct_5 1 rfl ?_
  refine V_purS dX8_direct_6 lX8_224 (c_M_isClass w so) rfl rfl rfl ?_
  refine V_ifeq_b 30 dX8_direct_9 (by decide) (fun zc1 => ?_) (fun zc1 => ?_)
  · refine V_ldc dX8_direct_30 kX8_230 ?_
    refine V_iret dX8_direct_32 rfl (nb rfl) (nb rfl) ?_
    refine ⟨?_, gs, ps, X, rfl, sameX.rf X⟩
    rw [if_neg (by grind)]
  · refine V_iload_n dX8_direct_12 2 rfl ?_
    refine V_iload_n dX8_direct_13 3 rfl ?_
    refine V_purS dX8_direct_14 lX8_227 (c_M_arePeriods w f t) rfl rfl rfl ?_
    refine V_ifeq_b 30 dX8_direct_17 (by decide) (fun zc2 => ?_) (fun zc2 => ?_)
    · refine V_ldc dX8_direct_30 kX8_230 ?_
      refine V_iret dX8_direct_32 rfl (nb rfl) (nb rfl) ?_
      refine ⟨?_, gs, ps, X, rfl, sameX.rf X⟩
      rw [if_neg (by grind)]
    · refine V_iload dX8_direct_20 4 rfl ?_
      refine V_iconst 0 dX8_direct_22 (by decide) ?_
      refine V_iconst 2 dX8_direct_23 (by decide) ?_
      refine V_purS dX8_direct_24 lX8_112 (c_M_isIn w wh 0 2) rfl rfl rfl ?_
      refine V_ifne_b 33 dX8_direct_27 (by decide) (fun zc3 => ?_) (fun zc3 => ?_)
      · refine V_iconst 0 dX8_direct_33 (by decide) ?_
        refine V_istore dX8_direct_34 rfl (L' := [(0, .ref (a 0)), (1, .int so), (2, .int f), (3, .int t), (4, .int wh), (5, .int 0)]) rfl ?_
        refine V_iconst 0 dX8_direct_36 (by decide) ?_
        refine V_istore dX8_direct_37 rfl (L' := [(0, .ref (a 0)), (1, .int so), (2, .int f), (3, .int t), (4, .int wh), (5, .int 0), (6, .int 0)]) rfl ?_
        refine V_iconst 0 dX8_direct_39 (by decide) ?_
        refine V_istore dX8_direct_40 rfl (L' := [(0, .ref (a 0)), (1, .int so), (2, .int f), (3, .int t), (4, .int wh), (5, .int 0), (6, .int 0), (7, .int 0)]) rfl ?_
        rw [if_pos (by grind)]
        exact lp_M_direct w a 0 Z sn X (X 11) rfl so f t wh na nj nl ac hN np ng cr de mv gr hP (nj + 1) 0 gs ps X (by omega) (by omega) (sameX.rf X)
      · refine V_ldc dX8_direct_30 kX8_230 ?_
        refine V_iret dX8_direct_32 rfl (nb rfl) (nb rfl) ?_
        refine ⟨?_, gs, ps, X, rfl, sameX.rf X⟩
        rw [if_neg (by grind)]

theorem e_M_apart (w : vWd) (a : Nat → Nat) (th : Int32) (Z : ZT) (sn gs ps : Nat) (X : Nat → Nat → Int32) (f t : Int32) (na nj : Nat) (nl : Nat → Nat) (ac : Nat → Nat → Nat) (hN : okN (X 11) na nj nl ac) (np ng : Nat → Nat) (cr de : Nat → Nat → Nat) (mv gr : Nat → Nat → Int32) (hP : okP (X 11) na nj nl np ng cr de mv gr) : Ct w mX8_apart 13 0 0 [.ref (a 0), .int f, .int t] (cG w a th Z sn gs ps X) (qM w a th Z sn X (apF (X 11) np cr de mv f t nj)) := by
  refine Ct.of (L := [(0, .ref (a 0)), (1, .int f), (2, .int t)]) (by decide) rfl rfl ?_
  refine V_iconst 0 dX8_apart_0 (by decide) ?_
  refine V_istore_n dX8_apart_1 rfl (L' := [(0, .ref (a 0)), (1, .int f), (2, .int t), (3, .int 0)]) rfl ?_
  refine V_iconst 0 dX8_apart_2 (by decide) ?_
  refine V_istore dX8_apart_3 rfl (L' := [(0, .ref (a 0)), (1, .int f), (2, .int t), (3, .int 0), (4, .int 0)]) rfl ?_
  exact lp_M_apart w a th Z sn X (X 11) rfl f t na nj nl ac hN np ng cr de mv gr hP (nj + 1) 0 gs ps X (by omega) (by omega) (sameX.rf X)

set_option maxRecDepth 100000 in
set_option maxHeartbeats 4000000 in
theorem lp_M_credited (w : vWd) (a : Nat → Nat) (th : Int32) (Z : ZT) (sn gs ps : Nat) (X : Nat → Nat → Int32) (ki f t : Int32) (na nj : Nat) (nl : Nat → Nat) (ac : Nat → Nat → Nat) (hN : okN (X 11) na nj nl ac) : ∀ (m : Nat) (k : Nat), (na + 1 ≤ k + m) → (k ≤ na) → V w mX8_credited (vc w 4 0 0 (qE (some (.int (crF (X 11) nl nj ki f t na))) (cG w a th Z sn gs ps X))) 0 0 6 [(0, .ref (a 0)), (1, .int ki), (2, .int f), (3, .int t), (4, .int (crF (X 11) nl nj ki f t k)), (5, .int (nI k))] [] (cG w a th Z sn gs ps X) := by
  intro m
  induction m with
  | zero =>
    intro k h1 h2
    exact absurd h1 (by omega)
  | succ m ih =>
    intro k h1 h2
    obtain ⟨hn0, hn1, hna, hnj, hnl, hac⟩ := id hN
    refine V_iload dX8_credited_6 5 rfl ?_
    refine V_aload_n dX8_credited_8 0 rfl ?_
    refine V_get dX8_credited_9 fX8_76 0 rfl rfl ?_
    refine V_iconst 0 dX8_credited_12 (by decide) ?_
    refine V_iald dX8_credited_13 2 rfl rfl 0 rfl (by omega) ?_
    refine V_casti (y := nI na) hn0 ?_
    refine V_icmp_ge_n k na 46 dX8_credited_14 (by decide) (by omega) (by omega) (fun zc1 => ?_) (fun zc1 => ?_)
    · refine V_iload dX8_credited_46 4 rfl ?_
      exact V_iret dX8_credited_48 rfl (nb rfl) (nb rfl) ⟨by rw [show k = na by omega], rfl⟩
    · refine V_aload_n dX8_credited_17 0 rfl ?_
      refine V_iload dX8_credited_18 5 rfl ?_
      refine V_selfR dX8_credited_20 lX8_203 (e_M_kindOf w a th Z sn gs ps X k (by omega)) rfl rfl 0 rfl rfl rfl rfl ?_
      refine V_iload_n dX8_credited_23 1 rfl ?_
      refine V_icmp_ne 40 dX8_credited_24 (by decide) (fun zc2 => ?_) (fun zc2 => ?_)
      · refine V_iinc (nI (k + 1)) dX8_credited_40 5 rfl (nI_i1 k) rfl (L' := [(0, .ref (a 0)), (1, .int ki), (2, .int f), (3, .int t), (4, .int (crF (X 11) nl nj ki f t k)), (5, .int (nI (k + 1)))]) rfl ?_
        refine V_goto 6 dX8_credited_43 (by decide) ?_
        rw [show crF (X 11) nl nj ki f t k = crF (X 11) nl nj ki f t (k + 1) by rw [crF, if_neg zc2]]
        exact ih (k + 1) (by omega) (by omega)
      · refine V_iload dX8_credited_27 4 rfl ?_
        refine V_aload_n dX8_credited_29 0 rfl ?_
        refine V_iload dX8_credited_30 5 rfl ?_
        refine V_iload_n dX8_credited_32 2 rfl ?_
        refine V_iload_n dX8_credited_33 3 rfl ?_
        refine V_selfR dX8_credited_34 lX8_182 (e_M_movedIn w a th Z sn gs ps X (nI k) f t na nj nl ac hN) rfl rfl 0 rfl rfl rfl rfl ?_
        refine V_isub dX8_credited_37 ?_
        refine V_istore dX8_credited_38 rfl (L' := [(0, .ref (a 0)), (1, .int ki), (2, .int f), (3, .int t), (4, .int ((crF (X 11) nl nj ki f t k) - (mMv (X 11) nl (nI k) f t nj))), (5, .int (nI k))]) rfl ?_
        refine V_iinc (nI (k + 1)) dX8_credited_40 5 rfl (nI_i1 k) rfl (L' := [(0, .ref (a 0)), (1, .int ki), (2, .int f), (3, .int t), (4, .int ((crF (X 11) nl nj ki f t k) - (mMv (X 11) nl (nI k) f t nj))), (5, .int (nI (k + 1)))]) rfl ?_
        refine V_goto 6 dX8_credited_43 (by decide) ?_
        rw [show (crF (X 11) nl nj ki f t k) - (mMv (X 11) nl (nI k) f t nj) = crF (X 11) nl nj ki f t (k + 1) by rw [crF, if_pos zc2]]
        exact ih (k + 1) (by omega) (by omega)

set_option maxRecDepth 100000 in
set_option maxHeartbeats 4000000 in
theorem e_M_credited (w : vWd) (a : Nat → Nat) (th : Int32) (Z : ZT) (sn gs ps : Nat) (X : Nat → Nat → Int32) (ki f t : Int32) (na nj : Nat) (nl : Nat → Nat) (ac : Nat → Nat → Nat) (hN : okN (X 11) na nj nl ac) : Ct w mX8_credited 4 0 0 [.ref (a 0), .int ki, .int f, .int t] (cG w a th Z sn gs ps X) (qE (some (.int (crF (X 11) nl nj ki f t na))) (cG w a th Z sn gs ps X)) := by
  refine Ct.of (L := [(0, .ref (a 0)), (1, .int ki), (2, .int f), (3, .int t)]) (by decide) rfl rfl ?_
  refine V_iconst 0 dX8_credited_0 (by decide) ?_
  refine V_istore dX8_credited_1 rfl (L' := [(0, .ref (a 0)), (1, .int ki), (2, .int f), (3, .int t), (4, .int 0)]) rfl ?_
  refine V_iconst 0 dX8_credited_3 (by decide) ?_
  refine V_istore dX8_credited_4 rfl (L' := [(0, .ref (a 0)), (1, .int ki), (2, .int f), (3, .int t), (4, .int 0), (5, .int 0)]) rfl ?_
  exact lp_M_credited w a th Z sn gs ps X ki f t na nj nl ac hN (na + 1) 0 (by omega) (by omega)

set_option maxRecDepth 100000 in
set_option maxHeartbeats 4000000 in
theorem e_M_indirect (w : vWd) (a : Nat → Nat) (th : Int32) (Z : ZT) (sn gs ps : Nat) (X : Nat → Nat → Int32) (f t wh : Int32) (na nj : Nat) (nl : Nat → Nat) (ac : Nat → Nat → Nat) (hN : okN (X 11) na nj nl ac) (np ng : Nat → Nat) (cr de : Nat → Nat → Nat) (mv gr : Nat → Nat → Int32) (hP : okP (X 11) na nj nl np ng cr de mv gr) : Ct w mX8_indirect 14 0 0 [.ref (a 0), .int f, .int t, .int wh] (cG w a th Z sn gs ps X) (qM w a 0 Z sn X (if (arP f t && isInB wh 0 3) = true then (if wh = 1 then crF (X 11) nl nj 2 f t na else if wh = 2 then crF (X 11) nl nj 1 f t na else if wh = 3 then apF (X 11) np cr de mv f t nj else crF (X 11) nl nj 2 f t na + crF (X 11) nl nj 1 f t na + apF (X 11) np cr de mv f t nj) else -100000000)) := by
  refine Ct.of (L := [(0, .ref (a 0)), (1, .int f), (2, .int t), (3, .int wh)]) (by decide) rfl rfl ?_
  refine V_aload_n dX8_indirect_0 0 rfl ?_
  refine V_iconst 0 dX8_indirect_1 (by decide) ?_
  refine V_put dX8_indirect_2 pX8_1 0 rfl rfl rfl rfl (ws' := cG w a 0 Z sn gs ps X) rfl ?_
  refine V_iload_n dX8_indirect_5 1 rfl ?_
  refine V_iload_n dX8_indirect_6 2 rfl ?_
  refine V_purS dX8_indirect_7 lX8_227 (c_M_arePeriods w f t) rfl rfl rfl ?_
  refine V_ifeq_b 22 dX8_indirect_10 (by decide) (fun zc1 => ?_) (fun zc1 => ?_)
  · refine V_ldc dX8_indirect_22 kX8_230 ?_
    refine V_iret dX8_indirect_24 rfl (nb rfl) (nb rfl) ?_
    refine ⟨?_, gs, ps, X, rfl, sameX.rf X⟩
    rw [if_neg (by clear hN hP; grind)]
  · refine V_iload_n dX8_indirect_13 3 rfl ?_
    refine V_iconst 0 dX8_indirect_14 (by decide) ?_
    refine V_iconst 3 dX8_indirect_15 (by decide) ?_
    refine V_purS dX8_indirect_16 lX8_112 (c_M_isIn w wh 0 3) rfl rfl rfl ?_
    refine V_ifne_b 25 dX8_indirect_19 (by decide) (fun zc2 => ?_) (fun zc2 => ?_)
    · refine V_iload_n dX8_indirect_25 3 rfl ?_
      refine V_iconst 1 dX8_indirect_26 (by decide) ?_
      refine V_icmp_ne 38 dX8_indirect_27 (by decide) (fun zc3 => ?_) (fun zc3 => ?_)
      · refine V_iload_n dX8_indirect_38 3 rfl ?_
        refine V_iconst 2 dX8_indirect_39 (by decide) ?_
        refine V_icmp_ne 51 dX8_indirect_40 (by decide) (fun zc4 => ?_) (fun zc4 => ?_)
        · refine V_iload_n dX8_indirect_51 3 rfl ?_
          refine V_iconst 3 dX8_indirect_52 (by decide) ?_
          refine V_icmp_ne 65 dX8_indirect_53 (by decide) (fun zc5 => ?_) (fun zc5 => ?_)
          · refine V_aload_n dX8_indirect_65 0 rfl ?_
            refine V_iconst 2 dX8_indirect_66 (by decide) ?_
            refine V_iload_n dX8_indirect_67 1 rfl ?_
            refine V_iload_n dX8_indirect_68 2 rfl ?_
            refine V_selfR dX8_indirect_69 lX8_234 (e_M_credited w a 0 Z sn gs ps X 2 f t na nj nl ac hN) rfl rfl 0 rfl rfl rfl rfl ?_
            refine V_aload_n dX8_indirect_72 0 rfl ?_
            refine V_iconst 1 dX8_indirect_73 (by decide) ?_
            refine V_iload_n dX8_indirect_74 1 rfl ?_
            refine V_iload_n dX8_indirect_75 2 rfl ?_
            refine V_selfR dX8_indirect_76 lX8_234 (e_M_credited w a 0 Z sn gs ps X 1 f t na nj nl ac hN) rfl rfl 0 rfl rfl rfl rfl ?_
            refine V_iadd dX8_indirect_79 ?_
            refine V_aload_n dX8_indirect_80 0 rfl ?_
            refine V_iload_n dX8_indirect_81 1 rfl ?_
            refine V_iload_n dX8_indirect_82 2 rfl ?_
            refine V_selfQ dX8_indirect_83 lX8_237 (e_M_apart w a 0 Z sn gs ps X f t na nj nl ac hN np ng cr de mv gr hP) rfl rfl 0 rfl rfl rfl rfl ?_
            rintro r9 x9 ⟨rfl, gs1, ps1, Y1, rfl, hs1⟩
            refine V_iadd dX8_indirect_86 ?_
            refine V_iret dX8_indirect_87 rfl (nb rfl) (nb rfl) ?_
            refine ⟨?_, gs1, ps1, Y1, rfl, hs1⟩
            rw [if_pos (by clear hN hP; grind)]
            congr 2; clear hN hP; grind
          · refine V_aload_n dX8_indirect_56 0 rfl ?_
            refine V_iload_n dX8_indirect_57 1 rfl ?_
            refine V_iload_n dX8_indirect_58 2 rfl ?_
            refine V_selfQ dX8_indirect_59 lX8_237 (e_M_apart w a 0 Z sn gs ps X f t na nj nl ac hN np ng cr de mv gr hP) rfl rfl 0 rfl rfl rfl rfl ?_
            rintro r9 x9 ⟨rfl, gs1, ps1, Y1, rfl, hs1⟩
            refine V_goto 87 dX8_indirect_62 (by decide) ?_
            refine V_iret dX8_indirect_87 rfl (nb rfl) (nb rfl) ?_
            refine ⟨?_, gs1, ps1, Y1, rfl, hs1⟩
            rw [if_pos (by clear hN hP; grind)]
            congr 2; clear hN hP; grind
        · refine V_aload_n dX8_indirect_43 0 rfl ?_
          refine V_iconst 1 dX8_indirect_44 (by decide) ?_
          refine V_iload_n dX8_indirect_45 1 rfl ?_
          refine V_iload_n dX8_indirect_46 2 rfl ?_
          refine V_selfR dX8_indirect_47 lX8_234 (e_M_credited w a 0 Z sn gs ps X 1 f t na nj nl ac hN) rfl rfl 0 rfl rfl rfl rfl ?_
          refine V_iret dX8_indirect_50 rfl (nb rfl) (nb rfl) ?_
          refine ⟨?_, gs, ps, X, rfl, sameX.rf X⟩
          rw [if_pos (by clear hN hP; grind)]
          congr 2; clear hN hP; grind
      · refine V_aload_n dX8_indirect_30 0 rfl ?_
        refine V_iconst 2 dX8_indirect_31 (by decide) ?_
        refine V_iload_n dX8_indirect_32 1 rfl ?_
        refine V_iload_n dX8_indirect_33 2 rfl ?_
        refine V_selfR dX8_indirect_34 lX8_234 (e_M_credited w a 0 Z sn gs ps X 2 f t na nj nl ac hN) rfl rfl 0 rfl rfl rfl rfl ?_
        refine V_iret dX8_indirect_37 rfl (nb rfl) (nb rfl) ?_
        refine ⟨?_, gs, ps, X, rfl, sameX.rf X⟩
        rw [if_pos (by clear hN hP; grind)]
        congr 2; clear hN hP; grind
    · refine V_ldc dX8_indirect_22 kX8_230 ?_
      refine V_iret dX8_indirect_24 rfl (nb rfl) (nb rfl) ?_
      refine ⟨?_, gs, ps, X, rfl, sameX.rf X⟩
      rw [if_neg (by clear hN hP; grind)]

set_option maxRecDepth 100000 in
set_option maxHeartbeats 4000000 in
theorem e_M_change (w : vWd) (a : Nat → Nat) (th : Int32) (Z : ZT) (sn gs ps : Nat) (X : Nat → Nat → Int32) (f t : Int32) (na nj : Nat) (nl : Nat → Nat) (ac : Nat → Nat → Nat) (hN : okN (X 11) na nj nl ac) (np ng : Nat → Nat) (cr de : Nat → Nat → Nat) (mv gr : Nat → Nat → Int32) (hP : okP (X 11) na nj nl np ng cr de mv gr) : Ct w mX8_change 5 0 0 [.ref (a 0), .int f, .int t] (cG w a th Z sn gs ps X) (qM w a 0 Z sn X (if arP f t = true then -crF (X 11) nl nj 0 f t na else -100000000)) := by
  refine Ct.of (L := [(0, .ref (a 0)), (1, .int f), (2, .int t)]) (by decide) rfl rfl ?_
  refine V_aload_n dX8_change_0 0 rfl ?_
  refine V_iconst 0 dX8_change_1 (by decide) ?_
  refine V_put dX8_change_2 pX8_1 0 rfl rfl rfl rfl (ws' := cG w a 0 Z sn gs ps X) rfl ?_
  refine V_iload_n dX8_change_5 1 rfl ?_
  refine V_iload_n dX8_change_6 2 rfl ?_
  refine V_purS dX8_change_7 lX8_227 (c_M_arePeriods w f t) rfl rfl rfl ?_
  refine V_ifeq_b 24 dX8_change_10 (by decide) (fun zc1 => ?_) (fun zc1 => ?_)
  · refine V_ldc dX8_change_24 kX8_230 ?_
    refine V_iret dX8_change_26 rfl (nb rfl) (nb rfl) ?_
    refine ⟨?_, gs, ps, X, rfl, sameX.rf X⟩
    rw [if_neg (by clear hN hP; grind)]
  · refine V_aload_n dX8_change_13 0 rfl ?_
    refine V_iconst 0 dX8_change_14 (by decide) ?_
    refine V_iload_n dX8_change_15 1 rfl ?_
    refine V_iload_n dX8_change_16 2 rfl ?_
    refine V_selfR dX8_change_17 lX8_234 (e_M_credited w a 0 Z sn gs ps X 0 f t na nj nl ac hN) rfl rfl 0 rfl rfl rfl rfl ?_
    refine V_ineg dX8_change_20 ?_
    refine V_goto 26 dX8_change_21 (by decide) ?_
    refine V_iret dX8_change_26 rfl (nb rfl) (nb rfl) ?_
    refine ⟨?_, gs, ps, X, rfl, sameX.rf X⟩
    rw [if_pos (by clear hN hP; grind)]
