/-! 23: the reference: post, more, strike, tell, turn, undo -/
theorem cps_n {f : Nat → Int32} {b : Nat} {g : Nat → Int32} {k j : Nat} (h : j < b ∨ b + k ≤ j) : cps f b g k j = f j := by
  unfold cps; rw [if_neg (by omega)]
theorem cps_i {f : Nat → Int32} {b : Nat} {g : Nat → Int32} {k j : Nat} (h : b ≤ j) (h2 : j < b + k) : cps f b g k j = g (j - b) := by
  unfold cps; rw [if_pos ⟨h, h2⟩]
theorem adF_n {N : Nat → Int32} {j n : Nat} {x y am : Int32} {i : Nat} (h : i < 50 + 15 * j) : adF N j n x y am i = N i := by
  unfold adF; rw [upd_n (by omega), upd_n (by omega), upd_n (by omega), upd_n (by omega), upd_n (by omega)]
def poN (N : Nat → Int32) (nj : Nat) (p : Int32) : Nat → Int32 := upd (cps N (50 + 15 * nj) (fun _ => 0) 15) (50 + 15 * nj + 0) p
def poF (N : Nat → Int32) (nj : Nat) (p x y am : Int32) : Nat → Int32 := upd (adF (poN N nj p) nj 0 x y am) 1 (nI (nj + 1))
theorem poN_n {N : Nat → Int32} {nj : Nat} {p : Int32} {i : Nat} (h : i < 50 + 15 * nj) : poN N nj p i = N i := by
  unfold poN; rw [upd_n (by omega), cps_n (by omega)]
theorem poN_2 {N : Nat → Int32} {nj : Nat} {p : Int32} : poN N nj p (50 + 15 * nj + 2) = nI 0 := by
  unfold poN; rw [upd_n (by omega), cps_i (by omega) (by omega)]; rfl
def mPo (N S : Nat → Int32) (sn na nj : Nat) (p x y am : Int32) : Int32 × Nat × (Nat → Int32) × (Nat → Int32) := if (isInB p 0 19 && (inA na x && inA na y && decide (x ≠ y) && isInB am 1 99999)) = true then (if nj = 30 then (-2, sn, S, N) else (nI nj, snN sn, snS S sn N, poF N nj p x y am)) else (-1, sn, S, N)
def mMo (N S : Nat → Int32) (nl : Nat → Nat) (sn na nj : Nat) (z x y am : Int32) : Int32 × Nat × (Nat → Int32) × (Nat → Int32) := if (inR nj z && (inA na x && inA na y && decide (x ≠ y) && isInB am 1 99999)) = true then (if 4 < nl z.toNatClampNeg then (-2, sn, S, N) else (nI (nl z.toNatClampNeg + 2), snN sn, snS S sn N, adF N z.toNatClampNeg (nl z.toNatClampNeg) x y am)) else (-1, sn, S, N)
def mSt (N S : Nat → Int32) (sn nj : Nat) (z : Int32) : Int32 × Nat × (Nat → Int32) × (Nat → Int32) := if inR nj z = true then (N (50 + 15 * z.toNatClampNeg + 1) ^^^ 1, snN sn, snS S sn N, upd N (50 + 15 * z.toNatClampNeg + 1) (N (50 + 15 * z.toNatClampNeg + 1) ^^^ 1)) else (-1, sn, S, N)
def mTe (N S : Nat → Int32) (sn na : Nat) (z b : Int32) : Int32 × Nat × (Nat → Int32) × (Nat → Int32) := if (inA na z && isInB b (-9999999) 9999999) = true then (1, snN sn, snS S sn N, upd (upd N (2 + 4 * z.toNatClampNeg + 2) 1) (2 + 4 * z.toNatClampNeg + 3) b) else (0, sn, S, N)
def mTu (N S : Nat → Int32) (sn na : Nat) (z b : Int32) : Int32 × Nat × (Nat → Int32) × (Nat → Int32) := if (inA na z && isInB b 0 5) = true then (N (2 + 4 * z.toNatClampNeg), snN sn, snS S sn N, upd N (2 + 4 * z.toNatClampNeg + 0) b) else (-1, sn, S, N)
def mUn (N S : Nat → Int32) (sn : Nat) : Int32 × Nat × (Nat → Int32) × (Nat → Int32) := if sn = 0 then (-1, sn, S, N) else (nI (sn - 1), sn - 1, S, cps N 0 (fun k => S (500 * (sn - 1) + k)) 500)

set_option maxRecDepth 100000 in
set_option maxHeartbeats 4000000 in
theorem lp_M_post (w : vWd) (a : Nat → Nat) (Z : ZT) (sn gs ps : Nat) (X : Nat → Nat → Int32) (p x y am : Int32) (nj : Nat) (hnj : nj < 30) (h1 : X 11 1 = nI nj) : ∀ (m : Nat) (k : Nat), (16 ≤ k + m) → (k ≤ 15) → V w mX8_post (vc w 3 0 0 (qE (some (.int (nI nj))) (cG w a 0 Z sn gs ps (uX X 11 (poF (X 11) nj p x y am))))) 0 0 63 [(0, .ref (a 0)), (1, .int p), (2, .int x), (3, .int y), (4, .int am), (5, .int (nI (50 + 15 * nj))), (6, .int (nI k))] [] (cG w a 0 Z sn gs ps (uX X 11 (cps (X 11) (50 + 15 * nj) (fun _ => 0) k))) := by
  intro m
  induction m with
  | zero =>
    intro k hk1 hk2
    exact absurd h1 (by omega)
  | succ m ih =>
    intro k hk1 hk2
    refine V_iload dX8_post_63 6 rfl ?_
    refine V_bipush 15 dX8_post_65 (by decide) ?_
    refine V_icmp_ge_n k 15 87 dX8_post_67 (by decide) (by omega) (by omega) (fun zc1 => ?_) (fun zc1 => ?_)
    · obtain rfl : k = 15 := by omega
      refine V_aload_n dX8_post_87 0 rfl ?_
      refine V_get dX8_post_88 fX8_76 0 rfl rfl ?_
      refine V_iload dX8_post_91 5 rfl ?_
      refine V_iconst 0 dX8_post_93 (by decide) ?_
      refine V_iadd dX8_post_94 ?_
      refine V_casti (y := nI ((50 + 15 * nj) + 0)) (nI_add (50 + 15 * nj) 0) ?_
      refine V_iload_n dX8_post_95 1 rfl ?_
      refine V_iast dX8_post_96 2 rfl rfl ((50 + 15 * nj) + 0) rfl (by omega) (ws' := cG w a 0 Z sn gs ps (uX X 11 (upd (cps (X 11) (50 + 15 * nj) (fun _ => 0) 15) ((50 + 15 * nj) + 0) p))) rfl ?_
      refine V_ws (ws' := cG w a 0 Z sn gs ps (uX X 11 (poN (X 11) nj p))) rfl ?_
      refine V_aload_n dX8_post_97 0 rfl ?_
      refine V_aload_n dX8_post_98 0 rfl ?_
      refine V_get dX8_post_99 fX8_76 0 rfl rfl ?_
      refine V_iconst 1 dX8_post_102 (by decide) ?_
      refine V_iald dX8_post_103 2 rfl rfl 1 rfl (by omega) ?_
      refine V_casti (y := nI nj) ((poN_n (by omega)).trans h1) ?_
      refine V_iload_n dX8_post_104 2 rfl ?_
      refine V_iload_n dX8_post_105 3 rfl ?_
      refine V_iload dX8_post_106 4 rfl ?_
      refine V_selfE (ws' := cG w a 0 Z sn gs ps (uX X 11 (adF (poN (X 11) nj p) nj 0 x y am))) dX8_post_108 lX8_255 (e_M_adds w a 0 Z sn gs ps (uX X 11 (poN (X 11) nj p)) nj 0 x y am (by omega) poN_2 (by omega)) rfl rfl 0 rfl rfl rfl rfl ?_
      refine V_pop dX8_post_111 rfl ?_
      refine V_aload_n dX8_post_112 0 rfl ?_
      refine V_get dX8_post_113 fX8_76 0 rfl rfl ?_
      refine V_iconst 1 dX8_post_116 (by decide) ?_
      refine V_dup2 dX8_post_117 rfl rfl ?_
      refine V_iald dX8_post_118 2 rfl rfl 1 rfl (by omega) ?_
      refine V_casti (y := nI nj) (show adF (poN (X 11) nj p) nj 0 x y am 1 = nI nj from (adF_n (by omega)).trans ((poN_n (by omega)).trans h1)) ?_
      refine V_iconst 1 dX8_post_119 (by decide) ?_
      refine V_iadd dX8_post_120 ?_
      refine V_casti (y := nI (nj + 1)) (nI_add nj 1) ?_
      refine V_iast dX8_post_121 2 rfl rfl 1 rfl (by omega) (ws' := cG w a 0 Z sn gs ps (uX X 11 (upd (adF (poN (X 11) nj p) nj 0 x y am) 1 (nI (nj + 1))))) rfl ?_
      refine V_aload_n dX8_post_122 0 rfl ?_
      refine V_get dX8_post_123 fX8_76 0 rfl rfl ?_
      refine V_iconst 1 dX8_post_126 (by decide) ?_
      refine V_iald dX8_post_127 2 rfl rfl 1 rfl (by omega) ?_
      refine V_casti (y := nI (nj + 1)) (show upd (adF (poN (X 11) nj p) nj 0 x y am) 1 (nI (nj + 1)) 1 = nI (nj + 1) from upd_s) ?_
      refine V_iconst 1 dX8_post_128 (by decide) ?_
      refine V_isub dX8_post_129 ?_
      refine V_casti (y := nI nj) (nI_pred nj) ?_
      exact V_iret dX8_post_130 rfl (nb rfl) (nb rfl) ⟨rfl, rfl⟩
    · refine V_aload_n dX8_post_70 0 rfl ?_
      refine V_get dX8_post_71 fX8_76 0 rfl rfl ?_
      refine V_iload dX8_post_74 5 rfl ?_
      refine V_iload dX8_post_76 6 rfl ?_
      refine V_iadd dX8_post_78 ?_
      refine V_casti (y := nI ((50 + 15 * nj) + k)) (nI_add (50 + 15 * nj) k) ?_
      refine V_iconst 0 dX8_post_79 (by decide) ?_
      refine V_iast dX8_post_80 2 rfl rfl ((50 + 15 * nj) + k) rfl (by omega) (ws' := cG w a 0 Z sn gs ps (uX X 11 (upd (cps (X 11) (50 + 15 * nj) (fun _ => 0) k) ((50 + 15 * nj) + k) 0))) rfl ?_
      refine V_iinc (nI (k + 1)) dX8_post_81 6 rfl (nI_i1 k) rfl (L' := [(0, .ref (a 0)), (1, .int p), (2, .int x), (3, .int y), (4, .int am), (5, .int (nI (50 + 15 * nj))), (6, .int (nI (k + 1)))]) rfl ?_
      refine V_goto 63 dX8_post_84 (by decide) ?_
      refine V_ws (ws' := cG w a 0 Z sn gs ps (uX X 11 (cps (X 11) (50 + 15 * nj) (fun _ => 0) (k + 1)))) (by rw [← cps_s]) ?_
      exact ih (k + 1) (by omega) (by omega)

set_option maxRecDepth 100000 in
set_option maxHeartbeats 4000000 in
theorem e_M_post (w : vWd) (a : Nat → Nat) (th : Int32) (Z : ZT) (sn gs ps : Nat) (X : Nat → Nat → Int32) (p x y am : Int32) (na nj : Nat) (nl : Nat → Nat) (ac : Nat → Nat → Nat) (hN : okN (X 11) na nj nl ac) (hsn : sn ≤ 10) : Ct w mX8_post 3 0 0 [.ref (a 0), .int p, .int x, .int y, .int am] (cG w a th Z sn gs ps X) (qE (some (.int (mPo (X 11) (X 13) sn na nj p x y am).1)) (cG w a 0 Z (mPo (X 11) (X 13) sn na nj p x y am).2.1 gs ps (uX (uX X 13 (mPo (X 11) (X 13) sn na nj p x y am).2.2.1) 11 (mPo (X 11) (X 13) sn na nj p x y am).2.2.2))) := by
  refine Ct.of (L := [(0, .ref (a 0)), (1, .int p), (2, .int x), (3, .int y), (4, .int am)]) (by decide) rfl rfl ?_
  obtain ⟨hn0, hn1, hna, hnj, hnl, hac⟩ := id hN
  refine V_aload_n dX8_post_0 0 rfl ?_
  refine V_iconst 0 dX8_post_1 (by decide) ?_
  refine V_put dX8_post_2 pX8_1 0 rfl rfl rfl rfl (ws' := cG w a 0 Z sn gs ps X) rfl ?_
  refine V_iload_n dX8_post_5 1 rfl ?_
  refine V_iconst 0 dX8_post_6 (by decide) ?_
  refine V_bipush 19 dX8_post_7 (by decide) ?_
  refine V_purS dX8_post_9 lX8_112 (c_M_isIn w p 0 19) rfl rfl rfl ?_
  refine V_ifeq_b 26 dX8_post_12 (by decide) (fun zc1 => ?_) (fun zc1 => ?_)
  · refine V_iconst (-1) dX8_post_26 (by decide) ?_
    refine V_iret dX8_post_27 rfl (nb rfl) (nb rfl) ?_
    have hr : mPo (X 11) (X 13) sn na nj p x y am = ((-1), sn, X 13, X 11) := by clear hN hnl hac; grind [mPo]
    exact ⟨by rw [hr] <;> rfl, by rw [hr] <;> rfl⟩
  · refine V_aload_n dX8_post_15 0 rfl ?_
    refine V_iload_n dX8_post_16 2 rfl ?_
    refine V_iload_n dX8_post_17 3 rfl ?_
    refine V_iload dX8_post_18 4 rfl ?_
    refine V_selfR dX8_post_20 lX8_249 (e_M_canPost w a 0 Z sn gs ps X x y am na nj nl ac hN) rfl rfl 0 rfl rfl rfl rfl ?_
    refine V_ifne_b 28 dX8_post_23 (by decide) (fun zc2 => ?_) (fun zc2 => ?_)
    · refine V_aload_n dX8_post_28 0 rfl ?_
      refine V_get dX8_post_29 fX8_76 0 rfl rfl ?_
      refine V_iconst 1 dX8_post_32 (by decide) ?_
      refine V_iald dX8_post_33 2 rfl rfl 1 rfl (by omega) ?_
      refine V_casti (y := nI nj) hn1 ?_
      refine V_bipush 30 dX8_post_34 (by decide) ?_
      refine V_icmp_ne_n nj 30 42 dX8_post_36 (by decide) (by omega) (by omega) (fun zc3 => ?_) (fun zc3 => ?_)
      · refine V_aload_n dX8_post_42 0 rfl ?_
        refine V_selfE (ws' := cG w a 0 Z (snN sn) gs ps (uX X 13 (snS (X 13) sn (X 11)))) dX8_post_43 lX8_252 (e_M_snap w a 0 Z sn gs ps X hsn) rfl rfl 0 rfl rfl rfl rfl ?_
        refine V_bipush 50 dX8_post_46 (by decide) ?_
        refine V_bipush 15 dX8_post_48 (by decide) ?_
        refine V_aload_n dX8_post_50 0 rfl ?_
        refine V_get dX8_post_51 fX8_76 0 rfl rfl ?_
        refine V_iconst 1 dX8_post_54 (by decide) ?_
        refine V_iald dX8_post_55 2 rfl rfl 1 rfl (by omega) ?_
        refine V_casti (y := nI nj) hn1 ?_
        refine V_imul dX8_post_56 ?_
        refine V_casti (y := nI (15 * nj)) (pk_mul 15 nj) ?_
        refine V_iadd dX8_post_57 ?_
        refine V_casti (y := nI (50 + (15 * nj))) (nI_add 50 (15 * nj)) ?_
        refine V_istore dX8_post_58 rfl (L' := [(0, .ref (a 0)), (1, .int p), (2, .int x), (3, .int y), (4, .int am), (5, .int (nI (50 + (15 * nj))))]) rfl ?_
        refine V_iconst 0 dX8_post_60 (by decide) ?_
        refine V_istore dX8_post_61 rfl (L' := [(0, .ref (a 0)), (1, .int p), (2, .int x), (3, .int y), (4, .int am), (5, .int (nI (50 + (15 * nj)))), (6, .int 0)]) rfl ?_
        have hx := lp_M_post w a Z (snN sn) gs ps (uX X 13 (snS (X 13) sn (X 11))) p x y am nj (by omega) hn1 16 0 (by omega) (by omega)
        have hr : mPo (X 11) (X 13) sn na nj p x y am = (nI nj, snN sn, snS (X 13) sn (X 11), poF (X 11) nj p x y am) := by clear hN hnl hac; grind [mPo]
        rw [hr]
        rw [cps_0] at hx
        exact hx
      · refine V_bipush (-2) dX8_post_39 (by decide) ?_
        refine V_iret dX8_post_41 rfl (nb rfl) (nb rfl) ?_
        have hr : mPo (X 11) (X 13) sn na nj p x y am = ((-2), sn, X 13, X 11) := by clear hN hnl hac; grind [mPo]
        exact ⟨by rw [hr] <;> rfl, by rw [hr] <;> rfl⟩
    · refine V_iconst (-1) dX8_post_26 (by decide) ?_
      refine V_iret dX8_post_27 rfl (nb rfl) (nb rfl) ?_
      have hr : mPo (X 11) (X 13) sn na nj p x y am = ((-1), sn, X 13, X 11) := by clear hN hnl hac; grind [mPo]
      exact ⟨by rw [hr] <;> rfl, by rw [hr] <;> rfl⟩

set_option maxRecDepth 100000 in
set_option maxHeartbeats 4000000 in
theorem e_M_more (w : vWd) (a : Nat → Nat) (th : Int32) (Z : ZT) (sn gs ps : Nat) (X : Nat → Nat → Int32) (z x y am : Int32) (na nj : Nat) (nl : Nat → Nat) (ac : Nat → Nat → Nat) (hN : okN (X 11) na nj nl ac) (hsn : sn ≤ 10) : Ct w mX8_more 3 0 0 [.ref (a 0), .int z, .int x, .int y, .int am] (cG w a th Z sn gs ps X) (qE (some (.int (mMo (X 11) (X 13) nl sn na nj z x y am).1)) (cG w a 0 Z (mMo (X 11) (X 13) nl sn na nj z x y am).2.1 gs ps (uX (uX X 13 (mMo (X 11) (X 13) nl sn na nj z x y am).2.2.1) 11 (mMo (X 11) (X 13) nl sn na nj z x y am).2.2.2))) := by
  refine Ct.of (L := [(0, .ref (a 0)), (1, .int z), (2, .int x), (3, .int y), (4, .int am)]) (by decide) rfl rfl ?_
  obtain ⟨hn0, hn1, hna, hnj, hnl, hac⟩ := id hN
  refine V_aload_n dX8_more_0 0 rfl ?_
  refine V_iconst 0 dX8_more_1 (by decide) ?_
  refine V_put dX8_more_2 pX8_1 0 rfl rfl rfl rfl (ws' := cG w a 0 Z sn gs ps X) rfl ?_
  refine V_aload_n dX8_more_5 0 rfl ?_
  refine V_iload_n dX8_more_6 1 rfl ?_
  refine V_selfR dX8_more_7 lX8_215 (e_M_isJournal w a 0 Z sn gs ps X z na nj nl ac hN) rfl rfl 0 rfl rfl rfl rfl ?_
  refine V_ifeq_b 24 dX8_more_10 (by decide) (fun zc1 => ?_) (fun zc1 => ?_)
  · refine V_iconst (-1) dX8_more_24 (by decide) ?_
    refine V_iret dX8_more_25 rfl (nb rfl) (nb rfl) ?_
    have hr : mMo (X 11) (X 13) nl sn na nj z x y am = ((-1), sn, X 13, X 11) := by clear hN hnl hac; grind [mMo]
    exact ⟨by rw [hr] <;> rfl, by rw [hr] <;> rfl⟩
  · have hxa := zc1
    refine V_aload_n dX8_more_13 0 rfl ?_
    refine V_iload_n dX8_more_14 2 rfl ?_
    refine V_iload_n dX8_more_15 3 rfl ?_
    refine V_iload dX8_more_16 4 rfl ?_
    refine V_selfR dX8_more_18 lX8_249 (e_M_canPost w a 0 Z sn gs ps X x y am na nj nl ac hN) rfl rfl 0 rfl rfl rfl rfl ?_
    refine V_ifne_b 26 dX8_more_21 (by decide) (fun zc2 => ?_) (fun zc2 => ?_)
    · obtain ⟨i, rfl, hi⟩ := inL_true (by omega) hxa
      have hcl : (nI i).toNatClampNeg = i := nI_clamp (by omega)
      obtain ⟨hl1, hl2⟩ := hnl i hi
      refine V_aload_n dX8_more_26 0 rfl ?_
      refine V_iload_n dX8_more_27 1 rfl ?_
      refine V_iconst 2 dX8_more_28 (by decide) ?_
      refine V_selfR dX8_more_29 lX8_167 (e_M_told w a 0 Z sn gs ps X i 2 (by omega)) rfl rfl 0 rfl rfl rfl rfl ?_
      refine V_casti (y := nI (nl i)) hl1 ?_
      refine V_iconst 4 dX8_more_32 (by decide) ?_
      refine V_icmp_le_n (nl i) 4 39 dX8_more_33 (by decide) (by omega) (by omega) (fun zc3 => ?_) (fun zc3 => ?_)
      · refine V_aload_n dX8_more_39 0 rfl ?_
        refine V_selfE (ws' := cG w a 0 Z (snN sn) gs ps (uX X 13 (snS (X 13) sn (X 11)))) dX8_more_40 lX8_252 (e_M_snap w a 0 Z sn gs ps X hsn) rfl rfl 0 rfl rfl rfl rfl ?_
        refine V_aload_n dX8_more_43 0 rfl ?_
        refine V_iload_n dX8_more_44 1 rfl ?_
        refine V_iload_n dX8_more_45 2 rfl ?_
        refine V_iload_n dX8_more_46 3 rfl ?_
        refine V_iload dX8_more_47 4 rfl ?_
        refine V_selfE (ws' := cG w a 0 Z (snN sn) gs ps (uX (uX X 11 (adF (X 11) i (nl i) x y am)) 13 (snS (X 13) sn (X 11)))) dX8_more_49 lX8_255 (e_M_adds w a 0 Z (snN sn) gs ps (uX X 13 (snS (X 13) sn (X 11))) i (nl i) x y am (by omega) hl1 (by omega)) rfl rfl 0 rfl rfl rfl rfl ?_
        refine V_iret dX8_more_52 rfl (nb rfl) (nb rfl) ?_
        have hr : mMo (X 11) (X 13) nl sn na nj (nI i) x y am = (nI ((nl i) + 2), snN sn, snS (X 13) sn (X 11), adF (X 11) i (nl i) x y am) := by clear hN hnl hac; grind [mMo]
        exact ⟨by rw [hr] <;> rfl, by rw [hr] <;> rfl⟩
      · refine V_bipush (-2) dX8_more_36 (by decide) ?_
        refine V_iret dX8_more_38 rfl (nb rfl) (nb rfl) ?_
        have hr : mMo (X 11) (X 13) nl sn na nj (nI i) x y am = ((-2), sn, X 13, X 11) := by clear hN hnl hac; grind [mMo]
        exact ⟨by rw [hr] <;> rfl, by rw [hr] <;> rfl⟩
    · refine V_iconst (-1) dX8_more_24 (by decide) ?_
      refine V_iret dX8_more_25 rfl (nb rfl) (nb rfl) ?_
      have hr : mMo (X 11) (X 13) nl sn na nj z x y am = ((-1), sn, X 13, X 11) := by clear hN hnl hac; grind [mMo]
      exact ⟨by rw [hr] <;> rfl, by rw [hr] <;> rfl⟩

set_option maxRecDepth 100000 in
set_option maxHeartbeats 4000000 in
theorem e_M_strike (w : vWd) (a : Nat → Nat) (th : Int32) (Z : ZT) (sn gs ps : Nat) (X : Nat → Nat → Int32) (z : Int32) (na nj : Nat) (nl : Nat → Nat) (ac : Nat → Nat → Nat) (hN : okN (X 11) na nj nl ac) (hsn : sn ≤ 10) : Ct w mX8_strike 2 0 0 [.ref (a 0), .int z] (cG w a th Z sn gs ps X) (qE (some (.int (mSt (X 11) (X 13) sn nj z).1)) (cG w a 0 Z (mSt (X 11) (X 13) sn nj z).2.1 gs ps (uX (uX X 13 (mSt (X 11) (X 13) sn nj z).2.2.1) 11 (mSt (X 11) (X 13) sn nj z).2.2.2))) := by
  refine Ct.of (L := [(0, .ref (a 0)), (1, .int z)]) (by decide) rfl rfl ?_
  obtain ⟨hn0, hn1, hna, hnj, hnl, hac⟩ := id hN
  refine V_aload_n dX8_strike_0 0 rfl ?_
  refine V_iconst 0 dX8_strike_1 (by decide) ?_
  refine V_put dX8_strike_2 pX8_1 0 rfl rfl rfl rfl (ws' := cG w a 0 Z sn gs ps X) rfl ?_
  refine V_aload_n dX8_strike_5 0 rfl ?_
  refine V_iload_n dX8_strike_6 1 rfl ?_
  refine V_selfR dX8_strike_7 lX8_215 (e_M_isJournal w a 0 Z sn gs ps X z na nj nl ac hN) rfl rfl 0 rfl rfl rfl rfl ?_
  refine V_ifne_b 15 dX8_strike_10 (by decide) (fun zc1 => ?_) (fun zc1 => ?_)
  · have hxa := zc1
    obtain ⟨i, rfl, hi⟩ := inL_true (by omega) hxa
    have hcl : (nI i).toNatClampNeg = i := nI_clamp (by omega)
    refine V_aload_n dX8_strike_15 0 rfl ?_
    refine V_selfE (ws' := cG w a 0 Z (snN sn) gs ps (uX X 13 (snS (X 13) sn (X 11)))) dX8_strike_16 lX8_252 (e_M_snap w a 0 Z sn gs ps X hsn) rfl rfl 0 rfl rfl rfl rfl ?_
    refine V_aload_n dX8_strike_19 0 rfl ?_
    refine V_get dX8_strike_20 fX8_76 0 rfl rfl ?_
    refine V_bipush 50 dX8_strike_23 (by decide) ?_
    refine V_bipush 15 dX8_strike_25 (by decide) ?_
    refine V_iload_n dX8_strike_27 1 rfl ?_
    refine V_imul dX8_strike_28 ?_
    refine V_casti (y := nI (15 * i)) (pk_mul 15 i) ?_
    refine V_iadd dX8_strike_29 ?_
    refine V_casti (y := nI (50 + (15 * i))) (nI_add 50 (15 * i)) ?_
    refine V_iconst 1 dX8_strike_30 (by decide) ?_
    refine V_iadd dX8_strike_31 ?_
    refine V_casti (y := nI ((50 + (15 * i)) + 1)) (nI_add (50 + (15 * i)) 1) ?_
    refine V_dup2 dX8_strike_32 rfl rfl ?_
    refine V_iald dX8_strike_33 2 rfl rfl ((50 + (15 * i)) + 1) rfl (by omega) ?_
    refine V_iconst 1 dX8_strike_34 (by decide) ?_
    refine V_ixor dX8_strike_35 ?_
    refine V_iast dX8_strike_36 2 rfl rfl ((50 + (15 * i)) + 1) rfl (by omega) (ws' := cG w a 0 Z (snN sn) gs ps (uX (uX X 11 (upd (X 11) ((50 + (15 * i)) + 1) (((X 11) ((50 + (15 * i)) + 1)) ^^^ 1))) 13 (snS (X 13) sn (X 11)))) rfl ?_
    refine V_aload_n dX8_strike_37 0 rfl ?_
    refine V_iload_n dX8_strike_38 1 rfl ?_
    refine V_iconst 1 dX8_strike_39 (by decide) ?_
    refine V_selfR dX8_strike_40 lX8_167 (e_M_told w a 0 Z (snN sn) gs ps (uX (uX X 11 (upd (X 11) ((50 + (15 * i)) + 1) (((X 11) ((50 + (15 * i)) + 1)) ^^^ 1))) 13 (snS (X 13) sn (X 11))) i 1 (by omega)) rfl rfl 0 rfl rfl rfl rfl ?_
    refine V_casti (y := X 11 (50 + 15 * i + 1) ^^^ 1) upd_s ?_
    refine V_iret dX8_strike_43 rfl (nb rfl) (nb rfl) ?_
    have hr : mSt (X 11) (X 13) sn nj (nI i) = (X 11 (50 + 15 * i + 1) ^^^ 1, snN sn, snS (X 13) sn (X 11), upd (X 11) ((50 + (15 * i)) + 1) (((X 11) ((50 + (15 * i)) + 1)) ^^^ 1)) := by clear hN hnl hac; grind [mSt]
    exact ⟨by rw [hr] <;> rfl, by rw [hr] <;> rfl⟩
  · refine V_iconst (-1) dX8_strike_13 (by decide) ?_
    refine V_iret dX8_strike_14 rfl (nb rfl) (nb rfl) ?_
    have hr : mSt (X 11) (X 13) sn nj z = ((-1), sn, X 13, X 11) := by clear hN hnl hac; grind [mSt]
    exact ⟨by rw [hr] <;> rfl, by rw [hr] <;> rfl⟩

set_option maxRecDepth 100000 in
set_option maxHeartbeats 4000000 in
theorem e_M_tell (w : vWd) (a : Nat → Nat) (th : Int32) (Z : ZT) (sn gs ps : Nat) (X : Nat → Nat → Int32) (z b : Int32) (na nj : Nat) (nl : Nat → Nat) (ac : Nat → Nat → Nat) (hN : okN (X 11) na nj nl ac) (hsn : sn ≤ 10) : Ct w mX8_tell 2 0 0 [.ref (a 0), .int z, .int b] (cG w a th Z sn gs ps X) (qE (some (.int (mTe (X 11) (X 13) sn na z b).1)) (cG w a 0 Z (mTe (X 11) (X 13) sn na z b).2.1 gs ps (uX (uX X 13 (mTe (X 11) (X 13) sn na z b).2.2.1) 11 (mTe (X 11) (X 13) sn na z b).2.2.2))) := by
  refine Ct.of (L := [(0, .ref (a 0)), (1, .int z), (2, .int b)]) (by decide) rfl rfl ?_
  obtain ⟨hn0, hn1, hna, hnj, hnl, hac⟩ := id hN
  refine V_aload_n dX8_tell_0 0 rfl ?_
  refine V_iconst 0 dX8_tell_1 (by decide) ?_
  refine V_put dX8_tell_2 pX8_1 0 rfl rfl rfl rfl (ws' := cG w a 0 Z sn gs ps X) rfl ?_
  refine V_aload_n dX8_tell_5 0 rfl ?_
  refine V_iload_n dX8_tell_6 1 rfl ?_
  refine V_selfR dX8_tell_7 lX8_206 (e_M_isAccount w a 0 Z sn gs ps X z na nj nl ac hN) rfl rfl 0 rfl rfl rfl rfl ?_
  refine V_ifeq_b 26 dX8_tell_10 (by decide) (fun zc1 => ?_) (fun zc1 => ?_)
  · refine V_iconst 0 dX8_tell_26 (by decide) ?_
    refine V_zret dX8_tell_27 rfl rfl (nb rfl) (nb rfl) ?_
    have hr : mTe (X 11) (X 13) sn na z b = (0, sn, X 13, X 11) := by clear hN hnl hac; grind [mTe]
    exact ⟨by rw [hr] <;> rfl, by rw [hr] <;> rfl⟩
  · have hxa := zc1
    refine V_iload_n dX8_tell_13 2 rfl ?_
    refine V_ldcw dX8_tell_14 kX8_259 ?_
    refine V_ldcw dX8_tell_17 kX8_260 ?_
    refine V_purS dX8_tell_20 lX8_112 (c_M_isIn w b (-9999999) 9999999) rfl rfl rfl ?_
    refine V_ifne_b 28 dX8_tell_23 (by decide) (fun zc2 => ?_) (fun zc2 => ?_)
    · obtain ⟨i, rfl, hi⟩ := inL_true (by omega) hxa
      have hcl : (nI i).toNatClampNeg = i := nI_clamp (by omega)
      refine V_aload_n dX8_tell_28 0 rfl ?_
      refine V_selfE (ws' := cG w a 0 Z (snN sn) gs ps (uX X 13 (snS (X 13) sn (X 11)))) dX8_tell_29 lX8_252 (e_M_snap w a 0 Z sn gs ps X hsn) rfl rfl 0 rfl rfl rfl rfl ?_
      refine V_aload_n dX8_tell_32 0 rfl ?_
      refine V_get dX8_tell_33 fX8_76 0 rfl rfl ?_
      refine V_iconst 2 dX8_tell_36 (by decide) ?_
      refine V_iconst 4 dX8_tell_37 (by decide) ?_
      refine V_iload_n dX8_tell_38 1 rfl ?_
      refine V_imul dX8_tell_39 ?_
      refine V_casti (y := nI (4 * i)) (pk_mul 4 i) ?_
      refine V_iadd dX8_tell_40 ?_
      refine V_casti (y := nI (2 + (4 * i))) (nI_add 2 (4 * i)) ?_
      refine V_iconst 2 dX8_tell_41 (by decide) ?_
      refine V_iadd dX8_tell_42 ?_
      refine V_casti (y := nI ((2 + (4 * i)) + 2)) (nI_add (2 + (4 * i)) 2) ?_
      refine V_iconst 1 dX8_tell_43 (by decide) ?_
      refine V_iast dX8_tell_44 2 rfl rfl ((2 + (4 * i)) + 2) rfl (by omega) (ws' := cG w a 0 Z (snN sn) gs ps (uX (uX X 11 (upd (X 11) ((2 + (4 * i)) + 2) 1)) 13 (snS (X 13) sn (X 11)))) rfl ?_
      refine V_aload_n dX8_tell_45 0 rfl ?_
      refine V_get dX8_tell_46 fX8_76 0 rfl rfl ?_
      refine V_iconst 2 dX8_tell_49 (by decide) ?_
      refine V_iconst 4 dX8_tell_50 (by decide) ?_
      refine V_iload_n dX8_tell_51 1 rfl ?_
      refine V_imul dX8_tell_52 ?_
      refine V_casti (y := nI (4 * i)) (pk_mul 4 i) ?_
      refine V_iadd dX8_tell_53 ?_
      refine V_casti (y := nI (2 + (4 * i))) (nI_add 2 (4 * i)) ?_
      refine V_iconst 3 dX8_tell_54 (by decide) ?_
      refine V_iadd dX8_tell_55 ?_
      refine V_casti (y := nI ((2 + (4 * i)) + 3)) (nI_add (2 + (4 * i)) 3) ?_
      refine V_iload_n dX8_tell_56 2 rfl ?_
      refine V_iast dX8_tell_57 2 rfl rfl ((2 + (4 * i)) + 3) rfl (by omega) (ws' := cG w a 0 Z (snN sn) gs ps (uX (uX X 11 (upd (upd (X 11) ((2 + (4 * i)) + 2) 1) ((2 + (4 * i)) + 3) b)) 13 (snS (X 13) sn (X 11)))) rfl ?_
      refine V_iconst 1 dX8_tell_58 (by decide) ?_
      refine V_zret dX8_tell_59 rfl rfl (nb rfl) (nb rfl) ?_
      have hr : mTe (X 11) (X 13) sn na (nI i) b = (1, snN sn, snS (X 13) sn (X 11), upd (upd (X 11) ((2 + (4 * i)) + 2) 1) ((2 + (4 * i)) + 3) b) := by clear hN hnl hac; grind [mTe]
      exact ⟨by rw [hr] <;> rfl, by rw [hr] <;> rfl⟩
    · refine V_iconst 0 dX8_tell_26 (by decide) ?_
      refine V_zret dX8_tell_27 rfl rfl (nb rfl) (nb rfl) ?_
      have hr : mTe (X 11) (X 13) sn na z b = (0, sn, X 13, X 11) := by clear hN hnl hac; grind [mTe]
      exact ⟨by rw [hr] <;> rfl, by rw [hr] <;> rfl⟩

set_option maxRecDepth 100000 in
set_option maxHeartbeats 4000000 in
theorem e_M_turn (w : vWd) (a : Nat → Nat) (th : Int32) (Z : ZT) (sn gs ps : Nat) (X : Nat → Nat → Int32) (z b : Int32) (na nj : Nat) (nl : Nat → Nat) (ac : Nat → Nat → Nat) (hN : okN (X 11) na nj nl ac) (hsn : sn ≤ 10) : Ct w mX8_turn 2 0 0 [.ref (a 0), .int z, .int b] (cG w a th Z sn gs ps X) (qE (some (.int (mTu (X 11) (X 13) sn na z b).1)) (cG w a 0 Z (mTu (X 11) (X 13) sn na z b).2.1 gs ps (uX (uX X 13 (mTu (X 11) (X 13) sn na z b).2.2.1) 11 (mTu (X 11) (X 13) sn na z b).2.2.2))) := by
  refine Ct.of (L := [(0, .ref (a 0)), (1, .int z), (2, .int b)]) (by decide) rfl rfl ?_
  obtain ⟨hn0, hn1, hna, hnj, hnl, hac⟩ := id hN
  refine V_aload_n dX8_turn_0 0 rfl ?_
  refine V_iconst 0 dX8_turn_1 (by decide) ?_
  refine V_put dX8_turn_2 pX8_1 0 rfl rfl rfl rfl (ws' := cG w a 0 Z sn gs ps X) rfl ?_
  refine V_aload_n dX8_turn_5 0 rfl ?_
  refine V_iload_n dX8_turn_6 1 rfl ?_
  refine V_selfR dX8_turn_7 lX8_206 (e_M_isAccount w a 0 Z sn gs ps X z na nj nl ac hN) rfl rfl 0 rfl rfl rfl rfl ?_
  refine V_ifeq_b 22 dX8_turn_10 (by decide) (fun zc1 => ?_) (fun zc1 => ?_)
  · refine V_iconst (-1) dX8_turn_22 (by decide) ?_
    refine V_iret dX8_turn_23 rfl (nb rfl) (nb rfl) ?_
    have hr : mTu (X 11) (X 13) sn na z b = ((-1), sn, X 13, X 11) := by clear hN hnl hac; grind [mTu]
    exact ⟨by rw [hr] <;> rfl, by rw [hr] <;> rfl⟩
  · have hxa := zc1
    refine V_iload_n dX8_turn_13 2 rfl ?_
    refine V_iconst 0 dX8_turn_14 (by decide) ?_
    refine V_iconst 5 dX8_turn_15 (by decide) ?_
    refine V_purS dX8_turn_16 lX8_112 (c_M_isIn w b 0 5) rfl rfl rfl ?_
    refine V_ifne_b 24 dX8_turn_19 (by decide) (fun zc2 => ?_) (fun zc2 => ?_)
    · obtain ⟨i, rfl, hi⟩ := inL_true (by omega) hxa
      have hcl : (nI i).toNatClampNeg = i := nI_clamp (by omega)
      refine V_aload_n dX8_turn_24 0 rfl ?_
      refine V_selfE (ws' := cG w a 0 Z (snN sn) gs ps (uX X 13 (snS (X 13) sn (X 11)))) dX8_turn_25 lX8_252 (e_M_snap w a 0 Z sn gs ps X hsn) rfl rfl 0 rfl rfl rfl rfl ?_
      refine V_aload_n dX8_turn_28 0 rfl ?_
      refine V_iload_n dX8_turn_29 1 rfl ?_
      refine V_selfR dX8_turn_30 lX8_203 (e_M_kindOf w a 0 Z (snN sn) gs ps (uX X 13 (snS (X 13) sn (X 11))) i (by omega)) rfl rfl 0 rfl rfl rfl rfl ?_
      refine V_istore_n dX8_turn_33 rfl (L' := [(0, .ref (a 0)), (1, .int (nI i)), (2, .int b), (3, .int (X 11 (2 + 4 * i)))]) rfl ?_
      refine V_aload_n dX8_turn_34 0 rfl ?_
      refine V_get dX8_turn_35 fX8_76 0 rfl rfl ?_
      refine V_iconst 2 dX8_turn_38 (by decide) ?_
      refine V_iconst 4 dX8_turn_39 (by decide) ?_
      refine V_iload_n dX8_turn_40 1 rfl ?_
      refine V_imul dX8_turn_41 ?_
      refine V_casti (y := nI (4 * i)) (pk_mul 4 i) ?_
      refine V_iadd dX8_turn_42 ?_
      refine V_casti (y := nI (2 + (4 * i))) (nI_add 2 (4 * i)) ?_
      refine V_iconst 0 dX8_turn_43 (by decide) ?_
      refine V_iadd dX8_turn_44 ?_
      refine V_casti (y := nI ((2 + (4 * i)) + 0)) (nI_add (2 + (4 * i)) 0) ?_
      refine V_iload_n dX8_turn_45 2 rfl ?_
      refine V_iast dX8_turn_46 2 rfl rfl ((2 + (4 * i)) + 0) rfl (by omega) (ws' := cG w a 0 Z (snN sn) gs ps (uX (uX X 11 (upd (X 11) ((2 + (4 * i)) + 0) b)) 13 (snS (X 13) sn (X 11)))) rfl ?_
      refine V_iload_n dX8_turn_47 3 rfl ?_
      refine V_iret dX8_turn_48 rfl (nb rfl) (nb rfl) ?_
      have hr : mTu (X 11) (X 13) sn na (nI i) b = (X 11 (2 + 4 * i), snN sn, snS (X 13) sn (X 11), upd (X 11) ((2 + (4 * i)) + 0) b) := by clear hN hnl hac; grind [mTu]
      exact ⟨by rw [hr] <;> rfl, by rw [hr] <;> rfl⟩
    · refine V_iconst (-1) dX8_turn_22 (by decide) ?_
      refine V_iret dX8_turn_23 rfl (nb rfl) (nb rfl) ?_
      have hr : mTu (X 11) (X 13) sn na z b = ((-1), sn, X 13, X 11) := by clear hN hnl hac; grind [mTu]
      exact ⟨by rw [hr] <;> rfl, by rw [hr] <;> rfl⟩

set_option maxRecDepth 100000 in
set_option maxHeartbeats 4000000 in
theorem lp_M_undo (w : vWd) (a : Nat → Nat) (Z : ZT) (sn gs ps : Nat) (X : Nat → Nat → Int32) (hs : sn ≤ 9) : ∀ (m : Nat) (k : Nat), (501 ≤ k + m) → (k ≤ 500) → V w mX8_undo (vc w 0 0 0 (qE (some (.int (nI sn))) (cG w a 0 Z sn gs ps (uX X 11 (cps (X 11) 0 (fun k => X 13 (500 * sn + k)) 500))))) 0 0 26 [(0, .ref (a 0)), (1, .int (nI k))] [] (cG w a 0 Z sn gs ps (uX X 11 (cps (X 11) 0 (fun k => X 13 (500 * sn + k)) k))) := by
  intro m
  induction m with
  | zero =>
    intro k h1 h2
    exact absurd h1 (by omega)
  | succ m ih =>
    intro k h1 h2
    refine V_iload_n dX8_undo_26 1 rfl ?_
    refine V_sipush 500 dX8_undo_27 (by decide) ?_
    refine V_icmp_ge_n k 500 60 dX8_undo_30 (by decide) (by omega) (by omega) (fun zc1 => ?_) (fun zc1 => ?_)
    · refine V_aload_n dX8_undo_60 0 rfl ?_
      refine V_get dX8_undo_61 fX8_160 0 rfl rfl ?_
      exact V_iret dX8_undo_64 rfl (nb rfl) (nb rfl) ⟨rfl, by rw [show k = 500 by omega]⟩
    · refine V_aload_n dX8_undo_33 0 rfl ?_
      refine V_get dX8_undo_34 fX8_76 0 rfl rfl ?_
      refine V_iload_n dX8_undo_37 1 rfl ?_
      refine V_aload_n dX8_undo_38 0 rfl ?_
      refine V_get dX8_undo_39 fX8_82 0 rfl rfl ?_
      refine V_sipush 500 dX8_undo_42 (by decide) ?_
      refine V_aload_n dX8_undo_45 0 rfl ?_
      refine V_get dX8_undo_46 fX8_160 0 rfl rfl ?_
      refine V_imul dX8_undo_49 ?_
      refine V_casti (y := nI (500 * sn)) (pk_mul 500 sn) ?_
      refine V_iload_n dX8_undo_50 1 rfl ?_
      refine V_iadd dX8_undo_51 ?_
      refine V_casti (y := nI ((500 * sn) + k)) (nI_add (500 * sn) k) ?_
      refine V_iald dX8_undo_52 4 rfl rfl ((500 * sn) + k) rfl (by omega) ?_
      refine V_iast dX8_undo_53 2 rfl rfl k rfl (by omega) (ws' := cG w a 0 Z sn gs ps (uX X 11 (upd (cps (X 11) 0 (fun k => X 13 (500 * sn + k)) k) k ((X 13) ((500 * sn) + k))))) rfl ?_
      refine V_iinc (nI (k + 1)) dX8_undo_54 1 rfl (nI_i1 k) rfl (L' := [(0, .ref (a 0)), (1, .int (nI (k + 1)))]) rfl ?_
      refine V_goto 26 dX8_undo_57 (by decide) ?_
      refine V_ws (ws' := cG w a 0 Z sn gs ps (uX X 11 (cps (X 11) 0 (fun k => X 13 (500 * sn + k)) (k + 1)))) (by rw [← cps_s, Nat.zero_add]) ?_
      exact ih (k + 1) (by omega) (by omega)

set_option maxRecDepth 100000 in
set_option maxHeartbeats 4000000 in
theorem e_M_undo (w : vWd) (a : Nat → Nat) (th : Int32) (Z : ZT) (sn gs ps : Nat) (X : Nat → Nat → Int32) (hsn : sn ≤ 10) : Ct w mX8_undo 0 0 0 [.ref (a 0)] (cG w a th Z sn gs ps X) (qE (some (.int (mUn (X 11) (X 13) sn).1)) (cG w a 0 Z (mUn (X 11) (X 13) sn).2.1 gs ps (uX (uX X 13 (mUn (X 11) (X 13) sn).2.2.1) 11 (mUn (X 11) (X 13) sn).2.2.2))) := by
  refine Ct.of (L := [(0, .ref (a 0))]) (by decide) rfl rfl ?_
  refine V_aload_n dX8_undo_0 0 rfl ?_
  refine V_iconst 0 dX8_undo_1 (by decide) ?_
  refine V_put dX8_undo_2 pX8_1 0 rfl rfl rfl rfl (ws' := cG w a 0 Z sn gs ps X) rfl ?_
  refine V_aload_n dX8_undo_5 0 rfl ?_
  refine V_get dX8_undo_6 fX8_160 0 rfl rfl ?_
  refine V_if_ne_n sn 14 dX8_undo_9 (by decide) (by omega) (fun zc1 => ?_) (fun zc1 => ?_)
  · refine V_aload_n dX8_undo_14 0 rfl ?_
    refine V_dup dX8_undo_15 rfl ?_
    refine V_get dX8_undo_16 fX8_160 0 rfl rfl ?_
    refine V_iconst 1 dX8_undo_19 (by decide) ?_
    refine V_isub dX8_undo_20 ?_
    refine V_casti (y := nI (sn - 1)) (pk_sub (b := 1) (by omega)) ?_
    refine V_put dX8_undo_21 pX8_160 0 rfl rfl rfl rfl (ws' := cG w a 0 Z (sn - 1) gs ps X) rfl ?_
    refine V_iconst 0 dX8_undo_24 (by decide) ?_
    refine V_istore_n dX8_undo_25 rfl (L' := [(0, .ref (a 0)), (1, .int 0)]) rfl ?_
    have hx := lp_M_undo w a Z (sn - 1) gs ps X (by omega) 501 0 (by omega) (by omega)
    rw [cps_0] at hx
    rw [show mUn (X 11) (X 13) sn = (nI (sn - 1), sn - 1, X 13, cps (X 11) 0 (fun k => X 13 (500 * (sn - 1) + k)) 500) by rw [mUn, if_neg (by omega)]]
    exact hx
  · refine V_iconst (-1) dX8_undo_12 (by decide) ?_
    refine V_iret dX8_undo_13 rfl (nb rfl) (nb rfl) ?_
    have hr : mUn (X 11) (X 13) sn = (-1, sn, X 13, X 11) := by rw [mUn, if_pos (by omega)]
    exact ⟨by rw [hr] <;> rfl, by rw [hr] <;> rfl⟩
