/-! 21: the reference: balance, now, account, journal, piece -/
theorem off_k {c n : Nat} {x : Int32} (hc : 1 ≤ c) (hc2 : c ≤ 30) (hn : n ≤ 6) (h : isInB x (nI c) (nI (c - 1 + n)) = true) : ∃ k, x = nI (c + k) ∧ k < n := by
  simp only [isInB, Bool.and_eq_true, decide_eq_true_eq] at h
  have h0 : ¬ x < 0 := fun z => absurd (Int32.lt_of_le_of_lt h.1 z) (nI_pos (by omega))
  obtain ⟨j, hj, rfl⟩ := nI_of h0
  have h1 := (nI_leI (by omega) hj).mp h.1
  have h2 := (nI_leI hj (by omega)).mp h.2
  exact ⟨j - c, by rw [show c + (j - c) = j by omega], by omega⟩
theorem off_s (c k : Nat) : nI (c + k) - nI c = nI k := by rw [pk_sub (by omega), Nat.add_sub_cancel_left]
theorem off_in {c n k : Nat} (hc : 1 ≤ c) (hc2 : c ≤ 30) (hn : n ≤ 6) (hk : k < 100) : isInB (nI (c + k)) (nI c) (nI (c - 1 + n)) = decide (k < n) := by
  have h1 : (nI c ≤ nI (c + k)) = (c ≤ c + k) := propext (nI_leI (by omega) (by omega))
  have h2 : (nI (c + k) ≤ nI (c - 1 + n)) = (c + k ≤ c - 1 + n) := propext (nI_leI (by omega) (by omega))
  simp only [isInB, h1, h2]
  by_cases h : k < n
  · rw [decide_eq_true (show c ≤ c + k by omega), decide_eq_true (show c + k ≤ c - 1 + n by omega), decide_eq_true h]; rfl
  · rw [decide_eq_false (show ¬ c + k ≤ c - 1 + n by omega), decide_eq_false h]; simp

set_option maxRecDepth 100000 in
set_option maxHeartbeats 4000000 in
theorem e_M_balance (w : vWd) (a : Nat → Nat) (th : Int32) (Z : ZT) (sn gs ps : Nat) (X : Nat → Nat → Int32) (x p : Int32) (na nj : Nat) (nl : Nat → Nat) (ac : Nat → Nat → Nat) (hN : okN (X 11) na nj nl ac) (np ng : Nat → Nat) (cr de : Nat → Nat → Nat) (mv gr : Nat → Nat → Int32) (hP : okP (X 11) na nj nl np ng cr de mv gr) : Ct w mX8_balance 5 0 0 [.ref (a 0), .int x, .int p] (cG w a th Z sn gs ps X) (qM w a 0 Z sn X (if (inA na x && isInB p 0 19) = true then mBal (X 11) nl nj x.toNatClampNeg p else -100000000)) := by
  refine Ct.of (L := [(0, .ref (a 0)), (1, .int x), (2, .int p)]) (by decide) rfl rfl ?_
  obtain ⟨hn0, hn1, hna, hnj, hnl, hac⟩ := id hN
  refine V_aload_n dX8_balance_0 0 rfl ?_
  refine V_iconst 0 dX8_balance_1 (by decide) ?_
  refine V_put dX8_balance_2 pX8_1 0 rfl rfl rfl rfl (ws' := cG w a 0 Z sn gs ps X) rfl ?_
  refine V_aload_n dX8_balance_5 0 rfl ?_
  refine V_iload_n dX8_balance_6 1 rfl ?_
  refine V_selfR dX8_balance_7 lX8_206 (e_M_isAccount w a 0 Z sn gs ps X x na nj nl ac hN) rfl rfl 0 rfl rfl rfl rfl ?_
  refine V_ifeq_b 32 dX8_balance_10 (by decide) (fun zc1 => ?_) (fun zc1 => ?_)
  · refine V_ldc dX8_balance_32 kX8_230 ?_
    refine V_iret dX8_balance_34 rfl (nb rfl) (nb rfl) ?_
    refine ⟨?_, gs, ps, X, rfl, sameX.rf X⟩
    rw [if_neg (by clear hN hP hnl hac; grind)]
  · have hxa := zc1
    refine V_iload_n dX8_balance_13 2 rfl ?_
    refine V_iconst 0 dX8_balance_14 (by decide) ?_
    refine V_bipush 19 dX8_balance_15 (by decide) ?_
    refine V_purS dX8_balance_17 lX8_112 (c_M_isIn w p 0 19) rfl rfl rfl ?_
    refine V_ifeq_b 32 dX8_balance_20 (by decide) (fun zc2 => ?_) (fun zc2 => ?_)
    · refine V_ldc dX8_balance_32 kX8_230 ?_
      refine V_iret dX8_balance_34 rfl (nb rfl) (nb rfl) ?_
      refine ⟨?_, gs, ps, X, rfl, sameX.rf X⟩
      rw [if_neg (by clear hN hP hnl hac; grind)]
    · obtain ⟨i, rfl, hi⟩ := inL_true (by omega) hxa
      refine V_aload_n dX8_balance_23 0 rfl ?_
      refine V_iload_n dX8_balance_24 1 rfl ?_
      refine V_iload_n dX8_balance_25 2 rfl ?_
      refine V_selfR dX8_balance_26 lX8_186 (e_M_balanceOf w a 0 Z sn gs ps X i p na nj nl ac hN (by omega)) rfl rfl 0 rfl rfl rfl rfl ?_
      refine V_goto 34 dX8_balance_29 (by decide) ?_
      refine V_iret dX8_balance_34 rfl (nb rfl) (nb rfl) ?_
      refine ⟨?_, gs, ps, X, rfl, sameX.rf X⟩
      rw [if_pos (by clear hN hP hnl hac; grind), nI_clamp (by omega)]

def mNow (N : Nat → Int32) (na nj sn tp : Nat) (wh : Int32) : Int32 := if wh = 0 then nI na else if wh = 1 then nI nj else if wh = 2 then isum (fun j => N (50 + 15 * j + 1)) nj else if wh = 3 then isum (fun i => N (2 + 4 * i + 2)) na else if wh = 4 then nI sn else if wh = 5 then nI tp else -1

set_option maxRecDepth 100000 in
set_option maxHeartbeats 4000000 in
theorem lp_M_now2 (w : vWd) (a : Nat → Nat) (th : Int32) (Z : ZT) (sn gs ps : Nat) (X : Nat → Nat → Int32) (wh v : Int32) (na nj : Nat) (nl : Nat → Nat) (ac : Nat → Nat → Nat) (hN : okN (X 11) na nj nl ac) (hv : isum (fun j => X 11 (50 + 15 * j + 1)) nj = v) : ∀ (m : Nat) (j : Nat), (nj + 1 ≤ j + m) → (j ≤ nj) → V w mX8_now (vc w 1 0 0 (qM w a 0 Z sn X v)) 0 0 57 [(0, .ref (a 0)), (1, .int wh), (2, .int (isum (fun j => X 11 (50 + 15 * j + 1)) j)), (3, .int (nI j))] [] (cG w a 0 Z sn gs ps X) := by
  intro m
  induction m with
  | zero =>
    intro j h1 h2
    exact absurd h1 (by omega)
  | succ m ih =>
    intro j h1 h2
    obtain ⟨hn0, hn1, hna, hnj, hnl, hac⟩ := id hN
    refine V_iload_n dX8_now_57 3 rfl ?_
    refine V_aload_n dX8_now_58 0 rfl ?_
    refine V_get dX8_now_59 fX8_76 0 rfl rfl ?_
    refine V_iconst 1 dX8_now_62 (by decide) ?_
    refine V_iald dX8_now_63 2 rfl rfl 1 rfl (by omega) ?_
    refine V_casti (y := nI nj) hn1 ?_
    refine V_icmp_ge_n j nj 82 dX8_now_64 (by decide) (by omega) (by omega) (fun zc1 => ?_) (fun zc1 => ?_)
    · refine V_iload_n dX8_now_82 2 rfl ?_
      exact V_iret dX8_now_83 rfl (nb rfl) (nb rfl) ⟨by rw [← hv, show j = nj by omega], gs, ps, X, rfl, sameX.rf X⟩
    · refine V_iload_n dX8_now_67 2 rfl ?_
      refine V_aload_n dX8_now_68 0 rfl ?_
      refine V_iload_n dX8_now_69 3 rfl ?_
      refine V_iconst 1 dX8_now_70 (by decide) ?_
      refine V_selfR dX8_now_71 lX8_167 (e_M_told w a 0 Z sn gs ps X j 1 (by omega)) rfl rfl 0 rfl rfl rfl rfl ?_
      refine V_iadd dX8_now_74 ?_
      refine V_istore_n dX8_now_75 rfl (L' := [(0, .ref (a 0)), (1, .int wh), (2, .int ((isum (fun j => X 11 (50 + 15 * j + 1)) j) + (X 11 (50 + 15 * j + 1)))), (3, .int (nI j))]) rfl ?_
      refine V_iinc (nI (j + 1)) dX8_now_76 3 rfl (nI_i1 j) rfl (L' := [(0, .ref (a 0)), (1, .int wh), (2, .int ((isum (fun j => X 11 (50 + 15 * j + 1)) j) + (X 11 (50 + 15 * j + 1)))), (3, .int (nI (j + 1)))]) rfl ?_
      refine V_goto 57 dX8_now_79 (by decide) ?_
      exact ih (j + 1) (by omega) (by omega)

set_option maxRecDepth 100000 in
set_option maxHeartbeats 4000000 in
theorem lp_M_now3 (w : vWd) (a : Nat → Nat) (th : Int32) (Z : ZT) (sn gs ps : Nat) (X : Nat → Nat → Int32) (wh v : Int32) (na nj : Nat) (nl : Nat → Nat) (ac : Nat → Nat → Nat) (hN : okN (X 11) na nj nl ac) (hv : isum (fun i => X 11 (2 + 4 * i + 2)) na = v) : ∀ (m : Nat) (i : Nat), (na + 1 ≤ i + m) → (i ≤ na) → V w mX8_now (vc w 1 0 0 (qM w a 0 Z sn X v)) 0 0 86 [(0, .ref (a 0)), (1, .int wh), (2, .int (isum (fun i => X 11 (2 + 4 * i + 2)) i)), (3, .int (nI i))] [] (cG w a 0 Z sn gs ps X) := by
  intro m
  induction m with
  | zero =>
    intro i h1 h2
    exact absurd h1 (by omega)
  | succ m ih =>
    intro i h1 h2
    obtain ⟨hn0, hn1, hna, hnj, hnl, hac⟩ := id hN
    refine V_iload_n dX8_now_86 3 rfl ?_
    refine V_aload_n dX8_now_87 0 rfl ?_
    refine V_get dX8_now_88 fX8_76 0 rfl rfl ?_
    refine V_iconst 0 dX8_now_91 (by decide) ?_
    refine V_iald dX8_now_92 2 rfl rfl 0 rfl (by omega) ?_
    refine V_casti (y := nI na) hn0 ?_
    refine V_icmp_ge_n i na 111 dX8_now_93 (by decide) (by omega) (by omega) (fun zc1 => ?_) (fun zc1 => ?_)
    · refine V_iload_n dX8_now_111 2 rfl ?_
      exact V_iret dX8_now_112 rfl (nb rfl) (nb rfl) ⟨by rw [← hv, show i = na by omega], gs, ps, X, rfl, sameX.rf X⟩
    · refine V_iload_n dX8_now_96 2 rfl ?_
      refine V_aload_n dX8_now_97 0 rfl ?_
      refine V_iload_n dX8_now_98 3 rfl ?_
      refine V_iconst 2 dX8_now_99 (by decide) ?_
      refine V_selfR dX8_now_100 lX8_163 (e_M_its w a 0 Z sn gs ps X i 2 (by omega)) rfl rfl 0 rfl rfl rfl rfl ?_
      refine V_iadd dX8_now_103 ?_
      refine V_istore_n dX8_now_104 rfl (L' := [(0, .ref (a 0)), (1, .int wh), (2, .int ((isum (fun i => X 11 (2 + 4 * i + 2)) i) + (X 11 (2 + 4 * i + 2)))), (3, .int (nI i))]) rfl ?_
      refine V_iinc (nI (i + 1)) dX8_now_105 3 rfl (nI_i1 i) rfl (L' := [(0, .ref (a 0)), (1, .int wh), (2, .int ((isum (fun i => X 11 (2 + 4 * i + 2)) i) + (X 11 (2 + 4 * i + 2)))), (3, .int (nI (i + 1)))]) rfl ?_
      refine V_goto 86 dX8_now_108 (by decide) ?_
      exact ih (i + 1) (by omega) (by omega)

set_option maxRecDepth 100000 in
set_option maxHeartbeats 4000000 in
theorem e_M_now (w : vWd) (a : Nat → Nat) (th : Int32) (Z : ZT) (sn gs ps : Nat) (X : Nat → Nat → Int32) (wh : Int32) (na nj : Nat) (nl : Nat → Nat) (ac : Nat → Nat → Nat) (hN : okN (X 11) na nj nl ac) (np ng : Nat → Nat) (cr de : Nat → Nat → Nat) (mv gr : Nat → Nat → Int32) (hP : okP (X 11) na nj nl np ng cr de mv gr) : Ct w mX8_now 1 0 0 [.ref (a 0), .int wh] (cG w a th Z sn gs ps X) (qM w a 0 Z sn X (mNow (X 11) na nj sn Z.1 wh)) := by
  refine Ct.of (L := [(0, .ref (a 0)), (1, .int wh)]) (by decide) rfl rfl ?_
  obtain ⟨hn0, hn1, hna, hnj, hnl, hac⟩ := id hN
  refine V_aload_n dX8_now_0 0 rfl ?_
  refine V_iconst 0 dX8_now_1 (by decide) ?_
  refine V_put dX8_now_2 pX8_1 0 rfl rfl rfl rfl (ws' := cG w a 0 Z sn gs ps X) rfl ?_
  refine V_iconst 0 dX8_now_5 (by decide) ?_
  refine V_istore_n dX8_now_6 rfl (L' := [(0, .ref (a 0)), (1, .int wh), (2, .int 0)]) rfl ?_
  refine V_iload_n dX8_now_7 1 rfl ?_
  by_cases zc1 : wh = 0
  · refine V_tabIn 48 dX8_now_8 (by rw [zc1]; decide) (by rw [zc1]; decide) (by rw [zc1]; rfl) (by decide) ?_
    refine V_aload_n dX8_now_48 0 rfl ?_
    refine V_get dX8_now_49 fX8_76 0 rfl rfl ?_
    refine V_iload_n dX8_now_52 1 rfl ?_
    refine V_iald dX8_now_53 2 rfl rfl 0 zc1 (by omega) ?_
    refine V_casti (y := nI na) hn0 ?_
    refine V_iret dX8_now_54 rfl (nb rfl) (nb rfl) ?_
    refine ⟨?_, gs, ps, X, rfl, sameX.rf X⟩
    clear hN hP hnl hac; grind [mNow]
  by_cases zc2 : wh = 1
  · refine V_tabIn 48 dX8_now_8 (by rw [zc2]; decide) (by rw [zc2]; decide) (by rw [zc2]; rfl) (by decide) ?_
    refine V_aload_n dX8_now_48 0 rfl ?_
    refine V_get dX8_now_49 fX8_76 0 rfl rfl ?_
    refine V_iload_n dX8_now_52 1 rfl ?_
    refine V_iald dX8_now_53 2 rfl rfl 1 zc2 (by omega) ?_
    refine V_casti (y := nI nj) hn1 ?_
    refine V_iret dX8_now_54 rfl (nb rfl) (nb rfl) ?_
    refine ⟨?_, gs, ps, X, rfl, sameX.rf X⟩
    clear hN hP hnl hac; grind [mNow]
  by_cases zc3 : wh = 2
  · refine V_tabIn 55 dX8_now_8 (by rw [zc3]; decide) (by rw [zc3]; decide) (by rw [zc3]; rfl) (by decide) ?_
    refine V_iconst 0 dX8_now_55 (by decide) ?_
    refine V_istore_n dX8_now_56 rfl (L' := [(0, .ref (a 0)), (1, .int wh), (2, .int 0), (3, .int 0)]) rfl ?_
    exact lp_M_now2 w a 0 Z sn gs ps X wh _ na nj nl ac hN (by clear hN hP hnl hac; grind [mNow]) (nj + 1) 0 (by omega) (by omega)
  by_cases zc4 : wh = 3
  · refine V_tabIn 84 dX8_now_8 (by rw [zc4]; decide) (by rw [zc4]; decide) (by rw [zc4]; rfl) (by decide) ?_
    refine V_iconst 0 dX8_now_84 (by decide) ?_
    refine V_istore_n dX8_now_85 rfl (L' := [(0, .ref (a 0)), (1, .int wh), (2, .int 0), (3, .int 0)]) rfl ?_
    exact lp_M_now3 w a 0 Z sn gs ps X wh _ na nj nl ac hN (by clear hN hP hnl hac; grind [mNow]) (na + 1) 0 (by omega) (by omega)
  by_cases zc5 : wh = 4
  · refine V_tabIn 113 dX8_now_8 (by rw [zc5]; decide) (by rw [zc5]; decide) (by rw [zc5]; rfl) (by decide) ?_
    refine V_aload_n dX8_now_113 0 rfl ?_
    refine V_get dX8_now_114 fX8_160 0 rfl rfl ?_
    refine V_iret dX8_now_117 rfl (nb rfl) (nb rfl) ?_
    refine ⟨?_, gs, ps, X, rfl, sameX.rf X⟩
    clear hN hP hnl hac; grind [mNow]
  by_cases zc6 : wh = 5
  · refine V_tabIn 118 dX8_now_8 (by rw [zc6]; decide) (by rw [zc6]; decide) (by rw [zc6]; rfl) (by decide) ?_
    refine V_aload_n dX8_now_118 0 rfl ?_
    refine V_get dX8_now_119 fX8_11 0 rfl rfl ?_
    refine V_iret dX8_now_122 rfl (nb rfl) (nb rfl) ?_
    refine ⟨?_, gs, ps, X, rfl, sameX.rf X⟩
    clear hN hP hnl hac; grind [mNow]
  refine V_tabOut 123 dX8_now_8 (v_out5 zc1 zc2 zc3 zc4 zc5 zc6) (by decide) ?_
  refine V_iconst (-1) dX8_now_123 (by decide) ?_
  refine V_iret dX8_now_124 rfl (nb rfl) (nb rfl) ?_
  refine ⟨?_, gs, ps, X, rfl, sameX.rf X⟩
  clear hN hP hnl hac; grind [mNow]

def mAcc (N : Nat → Int32) (nl : Nat → Nat) (na nj : Nat) (x wh : Int32) : Int32 × Int32 := if inA na x then (if wh = 0 then (0, N (2 + 4 * x.toNatClampNeg)) else if wh = 1 then (0, N (2 + 4 * x.toNatClampNeg + 1)) else if wh = 2 then (0, mBal N nl nj x.toNatClampNeg 20) else if wh = 3 then (0, N (2 + 4 * x.toNatClampNeg + 3)) else if wh = 4 then (0, mRes N nl nj x.toNatClampNeg) else (1, 0)) else (1, 0)
def mJou (N : Nat → Int32) (nl np ng : Nat → Nat) (gr : Nat → Nat → Int32) (nj : Nat) (x wh : Int32) : Int32 × Int32 := if inR nj x then (if isInB wh 10 (nI (9 + nl x.toNatClampNeg)) then (0, N (50 + 15 * x.toNatClampNeg + (3 + 2 * (wh - 10).toNatClampNeg))) else if isInB wh 20 (nI (19 + nl x.toNatClampNeg)) then (0, mAm N x.toNatClampNeg (wh - 20).toNatClampNeg) else if isInB wh 30 (nI (29 + nl x.toNatClampNeg)) then (0, gr x.toNatClampNeg (wh - 30).toNatClampNeg) else if wh = 0 then (0, N (50 + 15 * x.toNatClampNeg + 0)) else if wh = 1 then (0, nI (nl x.toNatClampNeg)) else if wh = 2 then (0, nI (ng x.toNatClampNeg)) else if wh = 3 then (0, nI (np x.toNatClampNeg)) else if wh = 4 then (0, N (50 + 15 * x.toNatClampNeg + 1)) else (1, 0)) else (1, 0)

set_option maxRecDepth 100000 in
set_option maxHeartbeats 4000000 in
theorem e_M_account (w : vWd) (a : Nat → Nat) (th : Int32) (Z : ZT) (sn gs ps : Nat) (X : Nat → Nat → Int32) (x wh : Int32) (na nj : Nat) (nl : Nat → Nat) (ac : Nat → Nat → Nat) (hN : okN (X 11) na nj nl ac) (np ng : Nat → Nat) (cr de : Nat → Nat → Nat) (mv gr : Nat → Nat → Int32) (hP : okP (X 11) na nj nl np ng cr de mv gr) : Ct w mX8_account 6 0 0 [.ref (a 0), .int x, .int wh] (cG w a th Z sn gs ps X) (qM w a (mAcc (X 11) nl na nj x wh).1 Z sn X (mAcc (X 11) nl na nj x wh).2) := by
  refine Ct.of (L := [(0, .ref (a 0)), (1, .int x), (2, .int wh)]) (by decide) rfl rfl ?_
  obtain ⟨hn0, hn1, hna, hnj, hnl, hac⟩ := id hN
  refine V_aload_n dX8_account_0 0 rfl ?_
  refine V_iconst 0 dX8_account_1 (by decide) ?_
  refine V_put dX8_account_2 pX8_1 0 rfl rfl rfl rfl (ws' := cG w a 0 Z sn gs ps X) rfl ?_
  refine V_aload_n dX8_account_5 0 rfl ?_
  refine V_iload_n dX8_account_6 1 rfl ?_
  refine V_selfR dX8_account_7 lX8_206 (e_M_isAccount w a 0 Z sn gs ps X x na nj nl ac hN) rfl rfl 0 rfl rfl rfl rfl ?_
  refine V_ifne_b 18 dX8_account_10 (by decide) (fun zc1 => ?_) (fun zc1 => ?_)
  · have hxa := zc1
    obtain ⟨i, rfl, hi⟩ := inL_true (by omega) hxa
    refine V_iload_n dX8_account_18 2 rfl ?_
    by_cases zc2 : wh = 0
    · refine V_tabIn 52 dX8_account_19 (by rw [zc2]; decide) (by rw [zc2]; decide) (by rw [zc2]; rfl) (by decide) ?_
      refine V_aload_n dX8_account_52 0 rfl ?_
      refine V_iload_n dX8_account_53 1 rfl ?_
      refine V_selfR dX8_account_54 lX8_203 (e_M_kindOf w a 0 Z sn gs ps X i (by omega)) rfl rfl 0 rfl rfl rfl rfl ?_
      refine V_iret dX8_account_57 rfl (nb rfl) (nb rfl) ?_
      have hcl : (nI i).toNatClampNeg = i := nI_clamp (by omega)
      have hr : mAcc (X 11) nl na nj (nI i) wh = (0, X 11 (2 + 4 * i)) := by clear hN hP hnl hac; grind [mAcc]
      exact ⟨by rw [hr], gs, ps, X, by rw [hr], sameX.rf X⟩
    by_cases zc3 : wh = 1
    · refine V_tabIn 58 dX8_account_19 (by rw [zc3]; decide) (by rw [zc3]; decide) (by rw [zc3]; rfl) (by decide) ?_
      refine V_aload_n dX8_account_58 0 rfl ?_
      refine V_iload_n dX8_account_59 1 rfl ?_
      refine V_iconst 1 dX8_account_60 (by decide) ?_
      refine V_selfR dX8_account_61 lX8_163 (e_M_its w a 0 Z sn gs ps X i 1 (by omega)) rfl rfl 0 rfl rfl rfl rfl ?_
      refine V_iret dX8_account_64 rfl (nb rfl) (nb rfl) ?_
      have hcl : (nI i).toNatClampNeg = i := nI_clamp (by omega)
      have hr : mAcc (X 11) nl na nj (nI i) wh = (0, X 11 (2 + 4 * i + 1)) := by clear hN hP hnl hac; grind [mAcc]
      exact ⟨by rw [hr], gs, ps, X, by rw [hr], sameX.rf X⟩
    by_cases zc4 : wh = 2
    · refine V_tabIn 65 dX8_account_19 (by rw [zc4]; decide) (by rw [zc4]; decide) (by rw [zc4]; rfl) (by decide) ?_
      refine V_aload_n dX8_account_65 0 rfl ?_
      refine V_iload_n dX8_account_66 1 rfl ?_
      refine V_bipush 20 dX8_account_67 (by decide) ?_
      refine V_selfR dX8_account_69 lX8_186 (e_M_balanceOf w a 0 Z sn gs ps X i 20 na nj nl ac hN (by omega)) rfl rfl 0 rfl rfl rfl rfl ?_
      refine V_iret dX8_account_72 rfl (nb rfl) (nb rfl) ?_
      have hcl : (nI i).toNatClampNeg = i := nI_clamp (by omega)
      have hr : mAcc (X 11) nl na nj (nI i) wh = (0, mBal (X 11) nl nj i 20) := by clear hN hP hnl hac; grind [mAcc]
      exact ⟨by rw [hr], gs, ps, X, by rw [hr], sameX.rf X⟩
    by_cases zc5 : wh = 3
    · refine V_tabIn 73 dX8_account_19 (by rw [zc5]; decide) (by rw [zc5]; decide) (by rw [zc5]; rfl) (by decide) ?_
      refine V_aload_n dX8_account_73 0 rfl ?_
      refine V_iload_n dX8_account_74 1 rfl ?_
      refine V_iconst 3 dX8_account_75 (by decide) ?_
      refine V_selfR dX8_account_76 lX8_163 (e_M_its w a 0 Z sn gs ps X i 3 (by omega)) rfl rfl 0 rfl rfl rfl rfl ?_
      refine V_iret dX8_account_79 rfl (nb rfl) (nb rfl) ?_
      have hcl : (nI i).toNatClampNeg = i := nI_clamp (by omega)
      have hr : mAcc (X 11) nl na nj (nI i) wh = (0, X 11 (2 + 4 * i + 3)) := by clear hN hP hnl hac; grind [mAcc]
      exact ⟨by rw [hr], gs, ps, X, by rw [hr], sameX.rf X⟩
    by_cases zc6 : wh = 4
    · refine V_tabIn 80 dX8_account_19 (by rw [zc6]; decide) (by rw [zc6]; decide) (by rw [zc6]; rfl) (by decide) ?_
      refine V_aload_n dX8_account_80 0 rfl ?_
      refine V_iload_n dX8_account_81 1 rfl ?_
      refine V_selfR dX8_account_82 lX8_212 (e_M_residual w a 0 Z sn gs ps X i na nj nl ac hN (by omega)) rfl rfl 0 rfl rfl rfl rfl ?_
      refine V_iret dX8_account_85 rfl (nb rfl) (nb rfl) ?_
      have hcl : (nI i).toNatClampNeg = i := nI_clamp (by omega)
      have hr : mAcc (X 11) nl na nj (nI i) wh = (0, mRes (X 11) nl nj i) := by clear hN hP hnl hac; grind [mAcc]
      exact ⟨by rw [hr], gs, ps, X, by rw [hr], sameX.rf X⟩
    refine V_tabOut 86 dX8_account_19 (v_out4 zc2 zc3 zc4 zc5 zc6) (by decide) ?_
    refine V_aload_n dX8_account_86 0 rfl ?_
    refine V_selfE (ws' := cG w a 1 Z sn gs ps X) dX8_account_87 lX8_209 (e_M_refuse w a 0 Z sn gs ps X) rfl rfl 0 rfl rfl rfl rfl ?_
    refine V_iret dX8_account_90 rfl (nb rfl) (nb rfl) ?_
    have hcl : (nI i).toNatClampNeg = i := nI_clamp (by omega)
    have hr : mAcc (X 11) nl na nj (nI i) wh = (1, 0) := by clear hN hP hnl hac; grind [mAcc]
    exact ⟨by rw [hr], gs, ps, X, by rw [hr], sameX.rf X⟩
  · refine V_aload_n dX8_account_13 0 rfl ?_
    refine V_selfE (ws' := cG w a 1 Z sn gs ps X) dX8_account_14 lX8_209 (e_M_refuse w a 0 Z sn gs ps X) rfl rfl 0 rfl rfl rfl rfl ?_
    refine V_iret dX8_account_17 rfl (nb rfl) (nb rfl) ?_
    have hr : mAcc (X 11) nl na nj x wh = (1, 0) := by clear hN hP hnl hac; grind [mAcc]
    exact ⟨by rw [hr], gs, ps, X, by rw [hr], sameX.rf X⟩

set_option maxRecDepth 100000 in
set_option maxHeartbeats 4000000 in
theorem e_M_journal (w : vWd) (a : Nat → Nat) (th : Int32) (Z : ZT) (sn gs ps : Nat) (X : Nat → Nat → Int32) (x wh : Int32) (na nj : Nat) (nl : Nat → Nat) (ac : Nat → Nat → Nat) (hN : okN (X 11) na nj nl ac) (np ng : Nat → Nat) (cr de : Nat → Nat → Nat) (mv gr : Nat → Nat → Int32) (hP : okP (X 11) na nj nl np ng cr de mv gr) : Ct w mX8_journal 13 0 0 [.ref (a 0), .int x, .int wh] (cG w a th Z sn gs ps X) (qM w a (mJou (X 11) nl np ng gr nj x wh).1 Z sn X (mJou (X 11) nl np ng gr nj x wh).2) := by
  refine Ct.of (L := [(0, .ref (a 0)), (1, .int x), (2, .int wh)]) (by decide) rfl rfl ?_
  obtain ⟨hn0, hn1, hna, hnj, hnl, hac⟩ := id hN
  refine V_aload_n dX8_journal_0 0 rfl ?_
  refine V_iconst 0 dX8_journal_1 (by decide) ?_
  refine V_put dX8_journal_2 pX8_1 0 rfl rfl rfl rfl (ws' := cG w a 0 Z sn gs ps X) rfl ?_
  refine V_aload_n dX8_journal_5 0 rfl ?_
  refine V_iload_n dX8_journal_6 1 rfl ?_
  refine V_selfR dX8_journal_7 lX8_215 (e_M_isJournal w a 0 Z sn gs ps X x na nj nl ac hN) rfl rfl 0 rfl rfl rfl rfl ?_
  refine V_ifne_b 18 dX8_journal_10 (by decide) (fun zc1 => ?_) (fun zc1 => ?_)
  · have hxa := zc1
    obtain ⟨i, rfl, hi⟩ := inL_true (by omega) hxa
    obtain ⟨hl1, hl2⟩ := hnl i hi
    obtain ⟨hpj, hgj⟩ := hP.1 i hi
    refine V_aload_n dX8_journal_18 0 rfl ?_
    refine V_iload_n dX8_journal_19 1 rfl ?_
    refine V_iconst 2 dX8_journal_20 (by decide) ?_
    refine V_selfR dX8_journal_21 lX8_167 (e_M_told w a 0 Z sn gs ps X i 2 (by omega)) rfl rfl 0 rfl rfl rfl rfl ?_
    refine V_casti (y := nI (nl i)) hl1 ?_
    refine V_istore_n dX8_journal_24 rfl (L' := [(0, .ref (a 0)), (1, .int (nI i)), (2, .int wh), (3, .int (nI (nl i)))]) rfl ?_
    refine V_iload_n dX8_journal_25 2 rfl ?_
    refine V_bipush 10 dX8_journal_26 (by decide) ?_
    refine V_bipush 9 dX8_journal_28 (by decide) ?_
    refine V_iload_n dX8_journal_30 3 rfl ?_
    refine V_iadd dX8_journal_31 ?_
    refine V_casti (y := nI (9 + (nl i))) (nI_add 9 (nl i)) ?_
    refine V_purS dX8_journal_32 lX8_112 (c_M_isIn w wh 10 (nI (9 + (nl i)))) rfl rfl rfl ?_
    refine V_ifeq_b 48 dX8_journal_35 (by decide) (fun zc2 => ?_) (fun zc2 => ?_)
    · have hx1 : ¬ isInB wh 10 (nI (9 + nl i)) = true := by rw [zc2]; decide
      refine V_iload_n dX8_journal_48 2 rfl ?_
      refine V_bipush 20 dX8_journal_49 (by decide) ?_
      refine V_bipush 19 dX8_journal_51 (by decide) ?_
      refine V_iload_n dX8_journal_53 3 rfl ?_
      refine V_iadd dX8_journal_54 ?_
      refine V_casti (y := nI (19 + (nl i))) (nI_add 19 (nl i)) ?_
      refine V_purS dX8_journal_55 lX8_112 (c_M_isIn w wh 20 (nI (19 + (nl i)))) rfl rfl rfl ?_
      refine V_ifeq_b 71 dX8_journal_58 (by decide) (fun zc3 => ?_) (fun zc3 => ?_)
      · have hx2 : ¬ isInB wh 20 (nI (19 + nl i)) = true := by rw [zc3]; decide
        refine V_aload_n dX8_journal_71 0 rfl ?_
        refine V_iload_n dX8_journal_72 1 rfl ?_
        refine V_selfQ dX8_journal_73 lX8_218 (e_M_lp w a 0 Z sn gs ps X i na nj nl ac hN (by omega) np ng cr de mv gr hP) rfl rfl 0 rfl rfl rfl rfl ?_
        rintro r9 x9 ⟨rfl, Y1, rfl, hs1, hpc1, hgr1⟩
        refine V_iload_n dX8_journal_76 2 rfl ?_
        refine V_bipush 30 dX8_journal_77 (by decide) ?_
        refine V_bipush 29 dX8_journal_79 (by decide) ?_
        refine V_iload_n dX8_journal_81 3 rfl ?_
        refine V_iadd dX8_journal_82 ?_
        refine V_casti (y := nI (29 + (nl i))) (nI_add 29 (nl i)) ?_
        refine V_purS dX8_journal_83 lX8_112 (c_M_isIn w wh 30 (nI (29 + (nl i)))) rfl rfl rfl ?_
        refine V_ifeq_b 99 dX8_journal_86 (by decide) (fun zc4 => ?_) (fun zc4 => ?_)
        · have hx3 : ¬ isInB wh 30 (nI (29 + nl i)) = true := by rw [zc4]; decide
          refine V_iload_n dX8_journal_99 2 rfl ?_
          by_cases zc5 : wh = 0
          · refine V_tabIn 136 dX8_journal_100 (by rw [zc5]; decide) (by rw [zc5]; decide) (by rw [zc5]; rfl) (by decide) ?_
            refine V_aload_n dX8_journal_136 0 rfl ?_
            refine V_iload_n dX8_journal_137 1 rfl ?_
            refine V_iconst 0 dX8_journal_138 (by decide) ?_
            refine V_selfR dX8_journal_139 lX8_167 (e_M_told w a 0 Z sn (ng i) (np i) Y1 i 0 (by omega)) rfl rfl 0 rfl rfl rfl rfl ?_
            refine V_casti (y := X 11 (50 + 15 * i + 0)) (by rw [hs1.2.1]) ?_
            refine V_iret dX8_journal_142 rfl (nb rfl) (nb rfl) ?_
            have hcl : (nI i).toNatClampNeg = i := nI_clamp (by omega)
            have hr : mJou (X 11) nl np ng gr nj (nI i) wh = (0, X 11 (50 + 15 * i + 0)) := by clear hN hP hnl hac hs1 hpc1 hgr1; grind [mJou]
            exact ⟨by rw [hr], _, _, Y1, by rw [hr], hs1⟩
          by_cases zc6 : wh = 1
          · refine V_tabIn 143 dX8_journal_100 (by rw [zc6]; decide) (by rw [zc6]; decide) (by rw [zc6]; rfl) (by decide) ?_
            refine V_iload_n dX8_journal_143 3 rfl ?_
            refine V_iret dX8_journal_144 rfl (nb rfl) (nb rfl) ?_
            have hcl : (nI i).toNatClampNeg = i := nI_clamp (by omega)
            have hr : mJou (X 11) nl np ng gr nj (nI i) wh = (0, nI (nl i)) := by clear hN hP hnl hac hs1 hpc1 hgr1; grind [mJou]
            exact ⟨by rw [hr], _, _, Y1, by rw [hr], hs1⟩
          by_cases zc7 : wh = 2
          · refine V_tabIn 145 dX8_journal_100 (by rw [zc7]; decide) (by rw [zc7]; decide) (by rw [zc7]; rfl) (by decide) ?_
            refine V_aload_n dX8_journal_145 0 rfl ?_
            refine V_get dX8_journal_146 fX8_189 0 rfl rfl ?_
            refine V_iret dX8_journal_149 rfl (nb rfl) (nb rfl) ?_
            have hcl : (nI i).toNatClampNeg = i := nI_clamp (by omega)
            have hr : mJou (X 11) nl np ng gr nj (nI i) wh = (0, nI (ng i)) := by clear hN hP hnl hac hs1 hpc1 hgr1; grind [mJou]
            exact ⟨by rw [hr], _, _, Y1, by rw [hr], hs1⟩
          by_cases zc8 : wh = 3
          · refine V_tabIn 150 dX8_journal_100 (by rw [zc8]; decide) (by rw [zc8]; decide) (by rw [zc8]; rfl) (by decide) ?_
            refine V_aload_n dX8_journal_150 0 rfl ?_
            refine V_get dX8_journal_151 fX8_196 0 rfl rfl ?_
            refine V_iret dX8_journal_154 rfl (nb rfl) (nb rfl) ?_
            have hcl : (nI i).toNatClampNeg = i := nI_clamp (by omega)
            have hr : mJou (X 11) nl np ng gr nj (nI i) wh = (0, nI (np i)) := by clear hN hP hnl hac hs1 hpc1 hgr1; grind [mJou]
            exact ⟨by rw [hr], _, _, Y1, by rw [hr], hs1⟩
          by_cases zc9 : wh = 4
          · refine V_tabIn 155 dX8_journal_100 (by rw [zc9]; decide) (by rw [zc9]; decide) (by rw [zc9]; rfl) (by decide) ?_
            refine V_aload_n dX8_journal_155 0 rfl ?_
            refine V_iload_n dX8_journal_156 1 rfl ?_
            refine V_iconst 1 dX8_journal_157 (by decide) ?_
            refine V_selfR dX8_journal_158 lX8_167 (e_M_told w a 0 Z sn (ng i) (np i) Y1 i 1 (by omega)) rfl rfl 0 rfl rfl rfl rfl ?_
            refine V_casti (y := X 11 (50 + 15 * i + 1)) (by rw [hs1.2.1]) ?_
            refine V_iret dX8_journal_161 rfl (nb rfl) (nb rfl) ?_
            have hcl : (nI i).toNatClampNeg = i := nI_clamp (by omega)
            have hr : mJou (X 11) nl np ng gr nj (nI i) wh = (0, X 11 (50 + 15 * i + 1)) := by clear hN hP hnl hac hs1 hpc1 hgr1; grind [mJou]
            exact ⟨by rw [hr], _, _, Y1, by rw [hr], hs1⟩
          refine V_tabOut 162 dX8_journal_100 (v_out4 zc5 zc6 zc7 zc8 zc9) (by decide) ?_
          refine V_aload_n dX8_journal_162 0 rfl ?_
          refine V_selfE (ws' := cG w a 1 Z sn (ng i) (np i) Y1) dX8_journal_163 lX8_209 (e_M_refuse w a 0 Z sn (ng i) (np i) Y1) rfl rfl 0 rfl rfl rfl rfl ?_
          refine V_iret dX8_journal_166 rfl (nb rfl) (nb rfl) ?_
          have hcl : (nI i).toNatClampNeg = i := nI_clamp (by omega)
          have hr : mJou (X 11) nl np ng gr nj (nI i) wh = (1, 0) := by clear hN hP hnl hac hs1 hpc1 hgr1; grind [mJou]
          exact ⟨by rw [hr], _, _, Y1, by rw [hr], hs1⟩
        · have hx3 := zc4
          obtain ⟨z, rfl, hz⟩ := off_k (c := 30) (n := nl i) (by omega) (by omega) hl2 hx3
          have hco : (nI (30 + z) - nI 30).toNatClampNeg = z := by rw [off_s]; exact nI_clamp (by omega)
          refine V_aload_n dX8_journal_89 0 rfl ?_
          refine V_get dX8_journal_90 fX8_88 0 rfl rfl ?_
          refine V_iload_n dX8_journal_93 2 rfl ?_
          refine V_bipush 30 dX8_journal_94 (by decide) ?_
          refine V_isub dX8_journal_96 ?_
          refine V_casti (y := nI z) (off_s 30 z) ?_
          refine V_iald dX8_journal_97 6 rfl rfl z rfl (by omega) ?_
          refine V_casti (y := gr i z) (hgr1 z hz) ?_
          refine V_iret dX8_journal_98 rfl (nb rfl) (nb rfl) ?_
          have hcl : (nI i).toNatClampNeg = i := nI_clamp (by omega)
          have hr : mJou (X 11) nl np ng gr nj (nI i) (nI (30 + z)) = (0, gr i z) := by
            unfold mJou
            rw [if_pos hxa, hcl, if_neg hx1, if_neg hx2, if_pos hx3]; exact congrArg (fun q => ((0 : Int32), gr i q)) hco
          exact ⟨by rw [hr], _, _, Y1, by rw [hr], hs1⟩
      · have hx2 := zc3
        obtain ⟨z, rfl, hz⟩ := off_k (c := 20) (n := nl i) (by omega) (by omega) hl2 hx2
        have hco : (nI (20 + z) - nI 20).toNatClampNeg = z := by rw [off_s]; exact nI_clamp (by omega)
        refine V_aload_n dX8_journal_61 0 rfl ?_
        refine V_iload_n dX8_journal_62 1 rfl ?_
        refine V_iload_n dX8_journal_63 2 rfl ?_
        refine V_bipush 20 dX8_journal_64 (by decide) ?_
        refine V_isub dX8_journal_66 ?_
        refine V_casti (y := nI z) (off_s 20 z) ?_
        refine V_selfR dX8_journal_67 lX8_173 (e_M_amountOf w a 0 Z sn gs ps X i z (by omega)) rfl rfl 0 rfl rfl rfl rfl ?_
        refine V_iret dX8_journal_70 rfl (nb rfl) (nb rfl) ?_
        have hcl : (nI i).toNatClampNeg = i := nI_clamp (by omega)
        have hr : mJou (X 11) nl np ng gr nj (nI i) (nI (20 + z)) = (0, mAm (X 11) i z) := by
          unfold mJou
          rw [if_pos hxa, hcl, if_neg hx1, if_pos hx2]; exact congrArg (fun q => ((0 : Int32), mAm (X 11) i q)) hco
        exact ⟨by rw [hr], gs, ps, X, by rw [hr], sameX.rf X⟩
    · have hx1 := zc2
      obtain ⟨z, rfl, hz⟩ := off_k (c := 10) (n := nl i) (by omega) (by omega) hl2 hx1
      have hco : (nI (10 + z) - nI 10).toNatClampNeg = z := by rw [off_s]; exact nI_clamp (by omega)
      refine V_aload_n dX8_journal_38 0 rfl ?_
      refine V_iload_n dX8_journal_39 1 rfl ?_
      refine V_iload_n dX8_journal_40 2 rfl ?_
      refine V_bipush 10 dX8_journal_41 (by decide) ?_
      refine V_isub dX8_journal_43 ?_
      refine V_casti (y := nI z) (off_s 10 z) ?_
      refine V_selfR dX8_journal_44 lX8_170 (e_M_lineOf w a 0 Z sn gs ps X i z (by omega)) rfl rfl 0 rfl rfl rfl rfl ?_
      refine V_iret dX8_journal_47 rfl (nb rfl) (nb rfl) ?_
      have hcl : (nI i).toNatClampNeg = i := nI_clamp (by omega)
      have hr : mJou (X 11) nl np ng gr nj (nI i) (nI (10 + z)) = (0, X 11 (50 + 15 * i + (3 + 2 * z))) := by
        unfold mJou
        rw [if_pos hxa, hcl, if_pos hx1]; exact congrArg (fun q => ((0 : Int32), X 11 (50 + 15 * i + (3 + 2 * q)))) hco
      exact ⟨by rw [hr], gs, ps, X, by rw [hr], sameX.rf X⟩
  · refine V_aload_n dX8_journal_13 0 rfl ?_
    refine V_selfE (ws' := cG w a 1 Z sn gs ps X) dX8_journal_14 lX8_209 (e_M_refuse w a 0 Z sn gs ps X) rfl rfl 0 rfl rfl rfl rfl ?_
    refine V_iret dX8_journal_17 rfl (nb rfl) (nb rfl) ?_
    have hr : mJou (X 11) nl np ng gr nj x wh = (1, 0) := by clear hN hP hnl hac; grind [mJou]
    exact ⟨by rw [hr], gs, ps, X, by rw [hr], sameX.rf X⟩

def mPie (N : Nat → Int32) (np : Nat → Nat) (cr de : Nat → Nat → Nat) (mv : Nat → Nat → Int32) (nj : Nat) (x y wh : Int32) : Int32 := if inR nj x && isInB wh 0 3 then (if inL 6 (np x.toNatClampNeg) y then (if wh = 0 then nI (cr x.toNatClampNeg y.toNatClampNeg) else if wh = 1 then nI (de x.toNatClampNeg y.toNatClampNeg) else if wh = 2 then mv x.toNatClampNeg y.toNatClampNeg else mCls (N (2 + 4 * cr x.toNatClampNeg y.toNatClampNeg)) (N (2 + 4 * de x.toNatClampNeg y.toNatClampNeg))) else -1) else -1

set_option maxRecDepth 100000 in
set_option maxHeartbeats 4000000 in
theorem e_M_piece (w : vWd) (a : Nat → Nat) (th : Int32) (Z : ZT) (sn gs ps : Nat) (X : Nat → Nat → Int32) (x y wh : Int32) (na nj : Nat) (nl : Nat → Nat) (ac : Nat → Nat → Nat) (hN : okN (X 11) na nj nl ac) (np ng : Nat → Nat) (cr de : Nat → Nat → Nat) (mv gr : Nat → Nat → Int32) (hP : okP (X 11) na nj nl np ng cr de mv gr) : Ct w mX8_piece 13 0 0 [.ref (a 0), .int x, .int y, .int wh] (cG w a th Z sn gs ps X) (qM w a 0 Z sn X (mPie (X 11) np cr de mv nj x y wh)) := by
  refine Ct.of (L := [(0, .ref (a 0)), (1, .int x), (2, .int y), (3, .int wh)]) (by decide) rfl rfl ?_
  obtain ⟨hn0, hn1, hna, hnj, hnl, hac⟩ := id hN
  refine V_aload_n dX8_piece_0 0 rfl ?_
  refine V_iconst 0 dX8_piece_1 (by decide) ?_
  refine V_put dX8_piece_2 pX8_1 0 rfl rfl rfl rfl (ws' := cG w a 0 Z sn gs ps X) rfl ?_
  refine V_aload_n dX8_piece_5 0 rfl ?_
  refine V_iload_n dX8_piece_6 1 rfl ?_
  refine V_selfR dX8_piece_7 lX8_215 (e_M_isJournal w a 0 Z sn gs ps X x na nj nl ac hN) rfl rfl 0 rfl rfl rfl rfl ?_
  refine V_ifeq_b 22 dX8_piece_10 (by decide) (fun zc1 => ?_) (fun zc1 => ?_)
  · refine V_iconst (-1) dX8_piece_22 (by decide) ?_
    refine V_iret dX8_piece_23 rfl (nb rfl) (nb rfl) ?_
    refine ⟨?_, gs, ps, X, rfl, sameX.rf X⟩
    rw [show mPie (X 11) np cr de mv nj x y wh = (-1) by clear hN hP hnl hac; grind [mPie]]
  · have hxa := zc1
    refine V_iload_n dX8_piece_13 3 rfl ?_
    refine V_iconst 0 dX8_piece_14 (by decide) ?_
    refine V_iconst 3 dX8_piece_15 (by decide) ?_
    refine V_purS dX8_piece_16 lX8_112 (c_M_isIn w wh 0 3) rfl rfl rfl ?_
    refine V_ifne_b 24 dX8_piece_19 (by decide) (fun zc2 => ?_) (fun zc2 => ?_)
    · obtain ⟨i, rfl, hi⟩ := inL_true (by omega) hxa
      obtain ⟨hpj, hgj⟩ := hP.1 i hi
      refine V_aload_n dX8_piece_24 0 rfl ?_
      refine V_iload_n dX8_piece_25 1 rfl ?_
      refine V_selfQ dX8_piece_26 lX8_218 (e_M_lp w a 0 Z sn gs ps X i na nj nl ac hN (by omega) np ng cr de mv gr hP) rfl rfl 0 rfl rfl rfl rfl ?_
      rintro r9 x9 ⟨rfl, Y1, rfl, hs1, hpc1, hgr1⟩
      refine V_iload_n dX8_piece_29 2 rfl ?_
      refine V_iconst 0 dX8_piece_30 (by decide) ?_
      refine V_aload_n dX8_piece_31 0 rfl ?_
      refine V_get dX8_piece_32 fX8_196 0 rfl rfl ?_
      refine V_iconst 1 dX8_piece_35 (by decide) ?_
      refine V_isub dX8_piece_36 ?_
      refine V_casti (y := nI (np i) - 1) rfl ?_
      refine V_purS dX8_piece_37 lX8_112 (c_M_isIn w y 0 (nI (np i) - 1)) rfl rfl rfl ?_
      refine V_casti (y := bi (inL 6 (np i) y)) (by rw [isIn_n (lim := 6) (by omega) (nI_le (b := 6) hpj (by omega))]) ?_
      refine V_ifne_b 45 dX8_piece_40 (by decide) (fun zc3 => ?_) (fun zc3 => ?_)
      · have hyk := zc3
        obtain ⟨z, rfl, hz⟩ := inL_true (by omega) hyk
        have hbz := hP.2.1 i z hi hz
        have hcz : (nI z).toNatClampNeg = z := nI_clamp (by omega)
        refine V_iload_n dX8_piece_45 3 rfl ?_
        refine V_if_ne 58 dX8_piece_46 (by decide) (fun zc4 => ?_) (fun zc4 => ?_)
        · refine V_iload_n dX8_piece_58 3 rfl ?_
          refine V_iconst 1 dX8_piece_59 (by decide) ?_
          refine V_icmp_ne 72 dX8_piece_60 (by decide) (fun zc5 => ?_) (fun zc5 => ?_)
          · refine V_iload_n dX8_piece_72 3 rfl ?_
            refine V_iconst 2 dX8_piece_73 (by decide) ?_
            refine V_icmp_ne 86 dX8_piece_74 (by decide) (fun zc6 => ?_) (fun zc6 => ?_)
            · refine V_aload_n dX8_piece_86 0 rfl ?_
              refine V_iload_n dX8_piece_87 2 rfl ?_
              refine V_selfR dX8_piece_88 lX8_221 (e_M_classOf w a 0 Z sn (ng i) (np i) Y1 z (cr i z) (de i z) (by omega) (hpc1 z hz).1 (hpc1 z hz).2.1 (by omega) (by omega)) rfl rfl 0 rfl rfl rfl rfl ?_
              refine V_casti (y := mCls (X 11 (2 + 4 * cr i z)) (X 11 (2 + 4 * de i z))) (by rw [hs1.2.1]) ?_
              refine V_iret dX8_piece_91 rfl (nb rfl) (nb rfl) ?_
              have hcl : (nI i).toNatClampNeg = i := nI_clamp (by omega)
              refine ⟨?_, _, _, Y1, rfl, hs1⟩
              rw [show mPie (X 11) np cr de mv nj (nI i) (nI z) wh = mCls (X 11 (2 + 4 * cr i z)) (X 11 (2 + 4 * de i z)) by clear hN hP hnl hac hs1 hpc1 hgr1; grind [mPie]]
            · refine V_aload_n dX8_piece_77 0 rfl ?_
              refine V_get dX8_piece_78 fX8_100 0 rfl rfl ?_
              refine V_iload_n dX8_piece_81 2 rfl ?_
              refine V_iald dX8_piece_82 10 rfl rfl z rfl (by omega) ?_
              refine V_casti (y := mv i z) (hpc1 z hz).2.2 ?_
              refine V_goto 91 dX8_piece_83 (by decide) ?_
              refine V_iret dX8_piece_91 rfl (nb rfl) (nb rfl) ?_
              have hcl : (nI i).toNatClampNeg = i := nI_clamp (by omega)
              refine ⟨?_, _, _, Y1, rfl, hs1⟩
              rw [show mPie (X 11) np cr de mv nj (nI i) (nI z) wh = mv i z by clear hN hP hnl hac hs1 hpc1 hgr1; grind [mPie]]
          · refine V_aload_n dX8_piece_63 0 rfl ?_
            refine V_get dX8_piece_64 fX8_97 0 rfl rfl ?_
            refine V_iload_n dX8_piece_67 2 rfl ?_
            refine V_iald dX8_piece_68 9 rfl rfl z rfl (by omega) ?_
            refine V_casti (y := nI (de i z)) (hpc1 z hz).2.1 ?_
            refine V_goto 91 dX8_piece_69 (by decide) ?_
            refine V_iret dX8_piece_91 rfl (nb rfl) (nb rfl) ?_
            have hcl : (nI i).toNatClampNeg = i := nI_clamp (by omega)
            refine ⟨?_, _, _, Y1, rfl, hs1⟩
            rw [show mPie (X 11) np cr de mv nj (nI i) (nI z) wh = nI (de i z) by clear hN hP hnl hac hs1 hpc1 hgr1; grind [mPie]]
        · refine V_aload_n dX8_piece_49 0 rfl ?_
          refine V_get dX8_piece_50 fX8_94 0 rfl rfl ?_
          refine V_iload_n dX8_piece_53 2 rfl ?_
          refine V_iald dX8_piece_54 8 rfl rfl z rfl (by omega) ?_
          refine V_casti (y := nI (cr i z)) (hpc1 z hz).1 ?_
          refine V_goto 91 dX8_piece_55 (by decide) ?_
          refine V_iret dX8_piece_91 rfl (nb rfl) (nb rfl) ?_
          have hcl : (nI i).toNatClampNeg = i := nI_clamp (by omega)
          refine ⟨?_, _, _, Y1, rfl, hs1⟩
          rw [show mPie (X 11) np cr de mv nj (nI i) (nI z) wh = nI (cr i z) by clear hN hP hnl hac hs1 hpc1 hgr1; grind [mPie]]
      · refine V_iconst (-1) dX8_piece_43 (by decide) ?_
        refine V_iret dX8_piece_44 rfl (nb rfl) (nb rfl) ?_
        have hcl : (nI i).toNatClampNeg = i := nI_clamp (by omega)
        refine ⟨?_, _, _, Y1, rfl, hs1⟩
        rw [show mPie (X 11) np cr de mv nj (nI i) y wh = (-1) by clear hN hP hnl hac hs1 hpc1 hgr1; grind [mPie]]
    · refine V_iconst (-1) dX8_piece_22 (by decide) ?_
      refine V_iret dX8_piece_23 rfl (nb rfl) (nb rfl) ?_
      refine ⟨?_, gs, ps, X, rfl, sameX.rf X⟩
      rw [show mPie (X 11) np cr de mv nj x y wh = (-1) by clear hN hP hnl hac; grind [mPie]]
