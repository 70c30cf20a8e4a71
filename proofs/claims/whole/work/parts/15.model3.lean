/-! 15: the reference reads a text: journals, the whole, text() -/
theorem mRL_fr {t : Nat → Int32} {n na e nl : Nat} {P : MP} (h : (mRL t n na e nl P).1 = true) (hl : nl ≤ 6) : ∀ k, e + 15 ≤ k → rdO (mRL t n na e nl P).2 k = rdO P k := by
  intro k hk
  unfold mRL at h ⊢
  split at h
  · split at h
    · split at h
      · exact absurd h (by simp)
      · split at h
        · next c1 c2 c3 c4 =>
          rw [if_pos c1, if_pos c2, if_neg c3, if_pos c4]
          show upd (upd (rdO (mL2 t n e nl P).2) (e + 3 + 2 * nl + 1) (gtO (mL2 t n e nl P).2)) (e + 2) (nI (nl + 1)) k = _
          rw [upd_n (by omega), upd_n (by omega), mL2_rd, upd_n (by omega)]
        · exact absurd h (by simp)
    · exact absurd h (by simp)
  · exact absurd h (by simp)
def mLs (t : Nat → Int32) (n na e : Nat) : Nat → Nat → Int32 → MP → Bool × Int32 × MP
  | 0, _, su, P => (false, su, P)
  | m + 1, nl, su, P => if nl < 2 ∨ mSg 59 P = false then (if (mRL t n na e nl P).1 then mLs t n na e m (nl + 1) (su + gtO (mRL t n na e nl P).2) (mRL t n na e nl P).2 else (false, su, (mRL t n na e nl P).2)) else (true, su, P)
theorem mLs_ok {t : Nat → Int32} {n na e : Nat} (he : 50 ≤ e) : ∀ {m nl : Nat} {su : Int32} {P : MP}, P.1 ≤ n → P.2.2.1 ≤ 4 → nl ≤ 6 → (mLs t n na e m nl su P).1 = true → rdO (mLs t n na e m nl su P).2.2 0 = rdO P 0 ∧ rdO (mLs t n na e m nl su P).2.2 1 = rdO P 1 ∧ (∀ k, e + 15 ≤ k → rdO (mLs t n na e m nl su P).2.2 k = rdO P k) ∧ (mLs t n na e m nl su P).2.2.1 ≤ n ∧ (mLs t n na e m nl su P).2.2.2.2.1 ≤ 4
  | 0, nl, su, P, _, _, _, h => absurd h (by simp [mLs])
  | m + 1, nl, su, P, hq, hso, hl, h => by
    unfold mLs at h ⊢
    split at h
    · split at h
      · next c1 c2 =>
        rw [if_pos c1, if_pos c2]
        obtain ⟨g1, g2, g3, g4, g5, g6⟩ := mRL_ok he hq c2 hl
        obtain ⟨i1, i2, i3, i4, i5⟩ := mLs_ok he (m := m) g5 g6 (by omega) h
        exact ⟨i1.trans g2, i2.trans g3, fun k hk => (i3 k hk).trans (mRL_fr c2 hl k hk), i4, i5⟩
      · exact absurd h (by simp)
    · next c1 =>
      rw [if_neg c1]
      exact ⟨rfl, rfl, fun _ _ => rfl, hq, hso⟩
def mRJe (t : Nat → Int32) (n nj : Nat) (r : Bool × Int32 × MP) : Bool × MP := if r.1 then (if r.2.1 = 0 then (true, mGo t n (mRd (upd (rdO r.2.2) 1 (nI (nj + 1))) r.2.2)) else (false, mBad 4 r.2.2)) else (false, r.2.2)
def mJ1 (t : Nat → Int32) (n : Nat) (P : MP) : Bool × MP := mTk t n 0 19 (mGo t n P)
def mJ2 (t : Nat → Int32) (n nj : Nat) (P : MP) : MP := mRd (upd (rdO (mJ1 t n P).2) (50 + 15 * nj + 0) (gtO (mJ1 t n P).2)) (mJ1 t n P).2
def mRJ (t : Nat → Int32) (n na nj : Nat) (P : MP) : Bool × MP := if nj = 12 then (false, mBad 3 P) else if (mJ1 t n P).1 then mRJe t n nj (mLs t n na (50 + 15 * nj) 7 0 0 (mJ2 t n nj P)) else (false, (mJ1 t n P).2)
theorem mJ1_rd {t : Nat → Int32} {n : Nat} {P : MP} : rdO (mJ1 t n P).2 = rdO P := mTk_rd

set_option maxRecDepth 100000 in
set_option maxHeartbeats 4000000 in
theorem lp_M_readJ (w : vWd) (a : Nat → Nat) (th : Int32) (tp sz sn gs ps : Nat) (X : Nat → Nat → Int32) (na nj e : Nat) (hs : sz ≤ 640) (hna : na ≤ 12) (hnj : nj ≤ 11) (he : 50 ≤ e) (he2 : e + 15 ≤ 500) : ∀ (m : Nat) (nl : Nat) (su : Int32) (P : MP), (7 ≤ nl + m) → (nl ≤ 6) → (rdO P 0 = nI na) → (rdO P 1 = nI nj) → (rdO P (e + 2) = nI nl) → (P.1 ≤ sz) → (P.2.2.1 ≤ 4) → V w mX8_readJournal (vc w 5 0 0 (qE (some (.int (bi (mRJe (X 1) sz nj (mLs (X 1) sz na e m nl su P)).1))) (c9 w a th tp sz sn gs ps X (mRJe (X 1) sz nj (mLs (X 1) sz na e m nl su P)).2))) 0 0 60 [(0, .ref (a 0)), (1, .int (nI e)), (2, .int su)] [] (c9 w a th tp sz sn gs ps X P) := by
  intro m
  induction m with
  | zero =>
    intro nl su P hm hnl h0 h1 hN hq hso
    exact absurd hm (by omega)
  | succ m ih =>
    intro nl su P hm hnl h0 h1 hN hq hso
    refine V_aload_n dX8_readJournal_60 0 rfl ?_
    refine V_get dX8_readJournal_61 fX8_79 0 rfl rfl ?_
    refine V_iload_n dX8_readJournal_64 1 rfl ?_
    refine V_iconst 2 dX8_readJournal_65 (by decide) ?_
    refine V_iadd dX8_readJournal_66 ?_
    refine V_casti (y := nI (e + 2)) (nI_add e 2) ?_
    refine V_iald dX8_readJournal_67 3 rfl rfl (e + 2) rfl (by omega) ?_
    refine V_casti (y := nI nl) hN ?_
    refine V_iconst 2 dX8_readJournal_68 (by decide) ?_
    refine V_icmp_lt_n nl 2 81 dX8_readJournal_69 (by decide) (by omega) (by omega) (fun zc1 => ?_) (fun zc1 => ?_)
    · refine V_aload_n dX8_readJournal_81 0 rfl ?_
      refine V_iload_n dX8_readJournal_82 1 rfl ?_
      refine V_selfE (ws' := c9 w a th tp sz sn gs ps X ((mRL (X 1) sz na e nl P).2)) dX8_readJournal_83 lX8_147 (d_M_readLine w a th tp sz sn gs ps X P na e nl hna h0 he he2 hN hnl hs hq hso) rfl rfl 0 rfl rfl rfl rfl ?_
      refine V_ifne_b 91 dX8_readJournal_86 (by decide) (fun zc2 => ?_) (fun zc2 => ?_)
      · have hrl := zc2
        refine V_iload_n dX8_readJournal_91 2 rfl ?_
        refine V_aload_n dX8_readJournal_92 0 rfl ?_
        refine V_get dX8_readJournal_93 fX8_116 0 rfl rfl ?_
        refine V_iadd dX8_readJournal_96 ?_
        refine V_istore_n dX8_readJournal_97 rfl (L' := [(0, .ref (a 0)), (1, .int (nI e)), (2, .int (su + (((mRL (X 1) sz na e nl P).2).2.2.2.2.2.2.2.1)))]) rfl ?_
        refine V_goto 60 dX8_readJournal_98 (by decide) ?_
        obtain ⟨g1, g2, g3, g4, g5, g6⟩ := mRL_ok he hq hrl hnl
        rw [show mLs (X 1) sz na e (m + 1) nl su P = mLs (X 1) sz na e m (nl + 1) (su + gtO (mRL (X 1) sz na e nl P).2) (mRL (X 1) sz na e nl P).2 by rw [mLs, if_pos (by grind), if_pos hrl]]
        exact ih (nl + 1) (su + gtO (mRL (X 1) sz na e nl P).2) (mRL (X 1) sz na e nl P).2 (by omega) (by omega) (g2.trans h0) (g3.trans h1) g4 g5 g6
      · refine V_iconst 0 dX8_readJournal_89 (by decide) ?_
        refine V_zret dX8_readJournal_90 rfl rfl (nb rfl) (nb rfl) ?_
        have hr : mRJe (X 1) sz nj (mLs (X 1) sz na e (m + 1) nl su P) = (false, ((mRL (X 1) sz na e nl P).2)) := by grind [mRJe, mLs]
        exact ⟨by rw [hr] <;> rfl, by rw [hr]⟩
    · refine V_aload_n dX8_readJournal_72 0 rfl ?_
      refine V_bipush 59 dX8_readJournal_73 (by decide) ?_
      refine V_selfR dX8_readJournal_75 lX8_122 (d_M_isSign w a th tp sz sn gs ps X P 59 hso) rfl rfl 0 rfl rfl rfl rfl ?_
      refine V_ifne_b 101 dX8_readJournal_78 (by decide) (fun zc3 => ?_) (fun zc3 => ?_)
      · refine V_iload_n dX8_readJournal_101 2 rfl ?_
        refine V_if_eq 111 dX8_readJournal_102 (by decide) (fun zc4 => ?_) (fun zc4 => ?_)
        · refine V_aload_n dX8_readJournal_111 0 rfl ?_
          refine V_get dX8_readJournal_112 fX8_79 0 rfl rfl ?_
          refine V_iconst 1 dX8_readJournal_115 (by decide) ?_
          refine V_dup2 dX8_readJournal_116 rfl rfl ?_
          refine V_iald dX8_readJournal_117 3 rfl rfl 1 rfl (by omega) ?_
          refine V_casti (y := nI nj) h1 ?_
          refine V_iconst 1 dX8_readJournal_118 (by decide) ?_
          refine V_iadd dX8_readJournal_119 ?_
          refine V_casti (y := nI (nj + 1)) (nI_add nj 1) ?_
          refine V_iast dX8_readJournal_120 3 rfl rfl 1 rfl (by omega) (ws' := c9 w a th tp sz sn gs ps X (mRd (upd P.2.2.2.2.2.2.2.2 1 (nI (nj + 1))) P)) rfl ?_
          refine V_aload_n dX8_readJournal_121 0 rfl ?_
          refine V_selfE (ws' := c9 w a th tp sz sn gs ps X (mGo (X 1) sz (mRd (upd P.2.2.2.2.2.2.2.2 1 (nI (nj + 1))) P))) dX8_readJournal_122 lX8_119 (d_M_go w a th tp sz sn gs ps X (mRd (upd P.2.2.2.2.2.2.2.2 1 (nI (nj + 1))) P) hs hq) rfl rfl 0 rfl rfl rfl rfl ?_
          refine V_iconst 1 dX8_readJournal_125 (by decide) ?_
          refine V_zret dX8_readJournal_126 rfl rfl (nb rfl) (nb rfl) ?_
          have hr : mRJe (X 1) sz nj (mLs (X 1) sz na e (m + 1) nl su P) = (true, (mGo (X 1) sz (mRd (upd P.2.2.2.2.2.2.2.2 1 (nI (nj + 1))) P))) := by grind [mRJe, mLs]
          exact ⟨by rw [hr] <;> rfl, by rw [hr]⟩
        · refine V_aload_n dX8_readJournal_105 0 rfl ?_
          refine V_iconst 4 dX8_readJournal_106 (by decide) ?_
          refine V_selfE (ws' := c9 w a th tp sz sn gs ps X (mBad 4 P)) dX8_readJournal_107 lX8_109 (d_M_bad w a th tp sz sn gs ps X P 4 hso) rfl rfl 0 rfl rfl rfl rfl ?_
          refine V_bret dX8_readJournal_110 rfl (nb rfl) (nb rfl) ?_
          have hr : mRJe (X 1) sz nj (mLs (X 1) sz na e (m + 1) nl su P) = (false, (mBad 4 P)) := by grind [mRJe, mLs]
          exact ⟨by rw [hr] <;> rfl, by rw [hr]⟩
      · refine V_aload_n dX8_readJournal_81 0 rfl ?_
        refine V_iload_n dX8_readJournal_82 1 rfl ?_
        refine V_selfE (ws' := c9 w a th tp sz sn gs ps X ((mRL (X 1) sz na e nl P).2)) dX8_readJournal_83 lX8_147 (d_M_readLine w a th tp sz sn gs ps X P na e nl hna h0 he he2 hN hnl hs hq hso) rfl rfl 0 rfl rfl rfl rfl ?_
        refine V_ifne_b 91 dX8_readJournal_86 (by decide) (fun zc5 => ?_) (fun zc5 => ?_)
        · have hrl := zc5
          refine V_iload_n dX8_readJournal_91 2 rfl ?_
          refine V_aload_n dX8_readJournal_92 0 rfl ?_
          refine V_get dX8_readJournal_93 fX8_116 0 rfl rfl ?_
          refine V_iadd dX8_readJournal_96 ?_
          refine V_istore_n dX8_readJournal_97 rfl (L' := [(0, .ref (a 0)), (1, .int (nI e)), (2, .int (su + (((mRL (X 1) sz na e nl P).2).2.2.2.2.2.2.2.1)))]) rfl ?_
          refine V_goto 60 dX8_readJournal_98 (by decide) ?_
          obtain ⟨g1, g2, g3, g4, g5, g6⟩ := mRL_ok he hq hrl hnl
          rw [show mLs (X 1) sz na e (m + 1) nl su P = mLs (X 1) sz na e m (nl + 1) (su + gtO (mRL (X 1) sz na e nl P).2) (mRL (X 1) sz na e nl P).2 by rw [mLs, if_pos (by grind), if_pos hrl]]
          exact ih (nl + 1) (su + gtO (mRL (X 1) sz na e nl P).2) (mRL (X 1) sz na e nl P).2 (by omega) (by omega) (g2.trans h0) (g3.trans h1) g4 g5 g6
        · refine V_iconst 0 dX8_readJournal_89 (by decide) ?_
          refine V_zret dX8_readJournal_90 rfl rfl (nb rfl) (nb rfl) ?_
          have hr : mRJe (X 1) sz nj (mLs (X 1) sz na e (m + 1) nl su P) = (false, ((mRL (X 1) sz na e nl P).2)) := by grind [mRJe, mLs]
          exact ⟨by rw [hr] <;> rfl, by rw [hr]⟩

set_option maxRecDepth 100000 in
set_option maxHeartbeats 4000000 in
theorem d_M_readJournal (w : vWd) (a : Nat → Nat) (th : Int32) (tp sz sn gs ps : Nat) (X : Nat → Nat → Int32) (P : MP) (na nj : Nat) (hna : na ≤ 12) (hnj : nj ≤ 12) (h0 : rdO P 0 = nI na) (h1 : rdO P 1 = nI nj) (hz : ∀ k, 50 + 15 * nj ≤ k → k < 500 → rdO P k = 0) (hs : sz ≤ 640) (hq : P.1 ≤ sz) (hso : P.2.2.1 ≤ 4) : Ct w mX8_readJournal 5 0 0 [.ref (a 0)] (c9 w a th tp sz sn gs ps X P) (qE (some (.int (bi (mRJ (X 1) sz na nj P).1))) (c9 w a th tp sz sn gs ps X (mRJ (X 1) sz na nj P).2)) := by
  refine Ct.of (L := [(0, .ref (a 0))]) (by decide) rfl rfl ?_
  refine V_aload_n dX8_readJournal_0 0 rfl ?_
  refine V_get dX8_readJournal_1 fX8_79 0 rfl rfl ?_
  refine V_iconst 1 dX8_readJournal_4 (by decide) ?_
  refine V_iald dX8_readJournal_5 3 rfl rfl 1 rfl (by omega) ?_
  refine V_casti (y := nI nj) h1 ?_
  refine V_bipush 12 dX8_readJournal_6 (by decide) ?_
  refine V_icmp_ne_n nj 12 17 dX8_readJournal_8 (by decide) (by omega) (by omega) (fun zc1 => ?_) (fun zc1 => ?_)
  · refine V_aload_n dX8_readJournal_17 0 rfl ?_
    refine V_selfE (ws' := c9 w a th tp sz sn gs ps X (mGo (X 1) sz P)) dX8_readJournal_18 lX8_119 (d_M_go w a th tp sz sn gs ps X P hs hq) rfl rfl 0 rfl rfl rfl rfl ?_
    refine V_bipush 50 dX8_readJournal_21 (by decide) ?_
    refine V_bipush 15 dX8_readJournal_23 (by decide) ?_
    refine V_aload_n dX8_readJournal_25 0 rfl ?_
    refine V_get dX8_readJournal_26 fX8_79 0 rfl rfl ?_
    refine V_iconst 1 dX8_readJournal_29 (by decide) ?_
    refine V_iald dX8_readJournal_30 3 rfl rfl 1 rfl (by omega) ?_
    refine V_casti (y := nI nj) h1 ?_
    refine V_imul dX8_readJournal_31 ?_
    refine V_casti (y := nI (15 * nj)) (pk_mul 15 nj) ?_
    refine V_iadd dX8_readJournal_32 ?_
    refine V_casti (y := nI (50 + (15 * nj))) (nI_add 50 (15 * nj)) ?_
    refine V_istore_n dX8_readJournal_33 rfl (L' := [(0, .ref (a 0)), (1, .int (nI (50 + (15 * nj))))]) rfl ?_
    refine V_aload_n dX8_readJournal_34 0 rfl ?_
    refine V_iconst 0 dX8_readJournal_35 (by decide) ?_
    refine V_bipush 19 dX8_readJournal_36 (by decide) ?_
    refine V_selfE (ws' := c9 w a th tp sz sn gs ps X ((mTk (X 1) sz 0 19 (mGo (X 1) sz P)).2)) dX8_readJournal_38 lX8_126 (d_M_takes w a th tp sz sn gs ps X (mGo (X 1) sz P) 0 19 hs (mGo_le hq) mGo_so) rfl rfl 0 rfl rfl rfl rfl ?_
    refine V_ifne_b 46 dX8_readJournal_41 (by decide) (fun zc2 => ?_) (fun zc2 => ?_)
    · refine V_aload_n dX8_readJournal_46 0 rfl ?_
      refine V_get dX8_readJournal_47 fX8_79 0 rfl rfl ?_
      refine V_iload_n dX8_readJournal_50 1 rfl ?_
      refine V_iconst 0 dX8_readJournal_51 (by decide) ?_
      refine V_iadd dX8_readJournal_52 ?_
      refine V_casti (y := nI ((50 + (15 * nj)) + 0)) (nI_add (50 + (15 * nj)) 0) ?_
      refine V_aload_n dX8_readJournal_53 0 rfl ?_
      refine V_get dX8_readJournal_54 fX8_116 0 rfl rfl ?_
      refine V_iast dX8_readJournal_57 3 rfl rfl ((50 + (15 * nj)) + 0) rfl (by omega) (ws' := c9 w a th tp sz sn gs ps X (mRd (upd (((mTk (X 1) sz 0 19 (mGo (X 1) sz P)).2).2.2.2.2.2.2.2.2) ((50 + (15 * nj)) + 0) (((mTk (X 1) sz 0 19 (mGo (X 1) sz P)).2).2.2.2.2.2.2.2.1)) ((mTk (X 1) sz 0 19 (mGo (X 1) sz P)).2))) rfl ?_
      refine V_iconst 0 dX8_readJournal_58 (by decide) ?_
      refine V_istore_n dX8_readJournal_59 rfl (L' := [(0, .ref (a 0)), (1, .int (nI (50 + (15 * nj)))), (2, .int 0)]) rfl ?_
      have hjr := mJ1_rd (t := X 1) (n := sz) (P := P)
      have hrr := lp_M_readJ w a th tp sz sn gs ps X na nj (50 + 15 * nj) hs hna (by omega) (by omega) (by omega) 7 0 0 (mJ2 (X 1) sz nj P) (by omega) (by omega) ((upd_n (by omega)).trans ((congrFun hjr 0).trans h0)) ((upd_n (by omega)).trans ((congrFun hjr 1).trans h1)) ((upd_n (by omega)).trans ((congrFun hjr _).trans (hz _ (by omega) (by omega)))) (mTk_le (mGo_le hq)) (mTk_so mGo_so)
      rw [show mRJ (X 1) sz na nj P = mRJe (X 1) sz nj (mLs (X 1) sz na (50 + 15 * nj) 7 0 0 (mJ2 (X 1) sz nj P)) by rw [mRJ, if_neg (by omega), if_pos (by grind [mJ1])]]
      exact hrr
    · refine V_iconst 0 dX8_readJournal_44 (by decide) ?_
      refine V_zret dX8_readJournal_45 rfl rfl (nb rfl) (nb rfl) ?_
      have hr : mRJ (X 1) sz na nj P = (false, ((mTk (X 1) sz 0 19 (mGo (X 1) sz P)).2)) := by grind [mRJ, mJ1]
      exact ⟨by rw [hr] <;> rfl, by rw [hr]⟩
  · refine V_aload_n dX8_readJournal_11 0 rfl ?_
    refine V_iconst 3 dX8_readJournal_12 (by decide) ?_
    refine V_selfE (ws' := c9 w a th tp sz sn gs ps X (mBad 3 P)) dX8_readJournal_13 lX8_109 (d_M_bad w a th tp sz sn gs ps X P 3 hso) rfl rfl 0 rfl rfl rfl rfl ?_
    refine V_bret dX8_readJournal_16 rfl (nb rfl) (nb rfl) ?_
    have hr : mRJ (X 1) sz na nj P = (false, (mBad 3 P)) := by grind [mRJ, mJ1]
    exact ⟨by rw [hr] <;> rfl, by rw [hr]⟩

theorem mRA_ok {t : Nat → Int32} {n na : Nat} {P : MP} (hq : P.1 ≤ n) (hna : na ≤ 12) (h : (mRA t n na P).1 = true) : na < 12 ∧ rdO (mRA t n na P).2 0 = nI (na + 1) ∧ rdO (mRA t n na P).2 1 = rdO P 1 ∧ (∀ k, 50 ≤ k → rdO (mRA t n na P).2 k = rdO P k) ∧ (mRA t n na P).2.1 ≤ n ∧ (mRA t n na P).2.2.2.1 ≤ 4 := by
  unfold mRA at h ⊢
  split at h
  · exact absurd h (by simp)
  · split at h
    · exact absurd h (by simp)
    · split at h
      · split at h
        · next c1 c2 c3 c4 =>
          rw [if_neg c1, if_neg c2, if_pos c3, if_pos c4]
          have hk : ∀ k, k ≠ 0 → k ≠ 2 + 4 * na + 1 → k ≠ 2 + 4 * na + 0 → upd (upd (rdO (mA3 t n na P).2) (2 + 4 * na + 1) (gtO (mA3 t n na P).2)) 0 (nI (na + 1)) k = rdO P k := fun k k1 k2 k3 => by rw [upd_n k1, upd_n k2, mA3_rd, upd_n k3]
          have hk0 : upd (upd (rdO (mA3 t n na P).2) (2 + 4 * na + 1) (gtO (mA3 t n na P).2)) 0 (nI (na + 1)) 0 = nI (na + 1) := upd_s
          refine ⟨by omega, hk0, ?_, ?_, mGo_le (mTA_le (mGo_le (mGo_le hq))), mGo_so⟩
          · exact hk 1 (by omega) (by omega) (by omega)
          · intro k h50
            exact hk k (by omega) (by omega) (by omega)
        · exact absurd h (by simp)
      · exact absurd h (by simp)
theorem mRJ_ok {t : Nat → Int32} {n na nj : Nat} {P : MP} (hq : P.1 ≤ n) (hnj : nj ≤ 12) (h : (mRJ t n na nj P).1 = true) : nj < 12 ∧ rdO (mRJ t n na nj P).2 0 = rdO P 0 ∧ rdO (mRJ t n na nj P).2 1 = nI (nj + 1) ∧ (∀ k, 50 + 15 * (nj + 1) ≤ k → rdO (mRJ t n na nj P).2 k = rdO P k) ∧ (mRJ t n na nj P).2.1 ≤ n ∧ (mRJ t n na nj P).2.2.2.1 ≤ 4 := by
  unfold mRJ at h ⊢
  split at h
  · exact absurd h (by simp)
  · split at h
    · next c1 c2 =>
      rw [if_neg c1, if_pos c2]
      unfold mRJe at h ⊢
      split at h
      · split at h
        · next c3 c4 =>
          rw [if_pos c3, if_pos c4]
          obtain ⟨i1, i2, i3, i4, i5⟩ := mLs_ok (t := t) (n := n) (na := na) (e := 50 + 15 * nj) (by omega) (P := mJ2 t n nj P) (mTk_le (mGo_le hq)) (mTk_so mGo_so) (by omega) c3
          have hj : ∀ k, k ≠ 50 + 15 * nj + 0 → rdO (mJ2 t n nj P) k = rdO P k := fun k hk => (upd_n hk).trans (congrFun mJ1_rd k)
          have hu1 : upd (rdO (mLs t n na (50 + 15 * nj) 7 0 0 (mJ2 t n nj P)).2.2) 1 (nI (nj + 1)) 1 = nI (nj + 1) := upd_s
          have hun : ∀ k, k ≠ 1 → upd (rdO (mLs t n na (50 + 15 * nj) 7 0 0 (mJ2 t n nj P)).2.2) 1 (nI (nj + 1)) k = rdO (mLs t n na (50 + 15 * nj) 7 0 0 (mJ2 t n nj P)).2.2 k := fun k hk => upd_n hk
          refine ⟨by omega, ?_, hu1, ?_, mGo_le i4, mGo_so⟩
          · exact (hun 0 (by omega)).trans (i1.trans (hj 0 (by omega)))
          · intro k hk
            exact (hun k (by omega)).trans ((i3 k (by omega)).trans (hj k (by omega)))
        · exact absurd h (by simp)
      · exact absurd h (by simp)
    · exact absurd h (by simp)
abbrev wAcc : Int64 := seven 97 99 99 111 117 110 116
abbrev wJou : Int64 := seven 106 111 117 114 110 97 108
def mAs (t : Nat → Int32) (n : Nat) : Nat → Nat → MP → Bool × Nat × MP
  | 0, na, P => (false, na, P)
  | m + 1, na, P => if mWd wAcc P then (if (mRA t n na P).1 then mAs t n m (na + 1) (mRA t n na P).2 else (false, na, (mRA t n na P).2)) else (true, na, P)
def mJs (t : Nat → Int32) (n na : Nat) : Nat → Nat → MP → Bool × Nat × MP
  | 0, nj, P => (false, nj, P)
  | m + 1, nj, P => if mWd wJou P then (if (mRJ t n na nj P).1 then mJs t n na m (nj + 1) (mRJ t n na nj P).2 else (false, nj, (mRJ t n na nj P).2)) else (true, nj, P)
def mWe (r : Bool × Nat × MP) : Bool × MP := if r.1 then (if r.2.2.2.2.1 = 0 then (true, r.2.2) else (false, mBad 1 r.2.2)) else (false, r.2.2)
def mWj (t : Nat → Int32) (n : Nat) (r : Bool × Nat × MP) : Bool × MP := if r.1 then mWe (mJs t n r.2.1 13 0 r.2.2) else (false, r.2.2)
def mW (t : Nat → Int32) (n : Nat) (P : MP) : Bool × MP := mWj t n (mAs t n 13 0 P)

set_option maxRecDepth 100000 in
set_option maxHeartbeats 4000000 in
theorem lp_M_js (w : vWd) (a : Nat → Nat) (th : Int32) (tp sz sn gs ps : Nat) (X : Nat → Nat → Int32) (na : Nat) (hs : sz ≤ 640) (hna : na ≤ 12) : ∀ (m : Nat) (nj : Nat) (P : MP), (13 ≤ nj + m) → (nj ≤ 12) → (rdO P 0 = nI na) → (rdO P 1 = nI nj) → (∀ k, 50 + 15 * nj ≤ k → k < 500 → rdO P k = 0) → (P.1 ≤ sz) → (P.2.2.1 ≤ 4) → V w mX8_readWhole (vc w 6 0 0 (qE (some (.int (bi (mWe (mJs (X 1) sz na m nj P)).1))) (c9 w a th tp sz sn gs ps X (mWe (mJs (X 1) sz na m nj P)).2))) 0 0 33 [(0, .ref (a 0))] [] (c9 w a th tp sz sn gs ps X P) := by
  intro m
  induction m with
  | zero =>
    intro nj P hm hnj h0 h1 hz hq hso
    exact absurd hm (by omega)
  | succ m ih =>
    intro nj P hm hnj h0 h1 hz hq hso
    refine V_aload_n dX8_readWhole_33 0 rfl ?_
    refine V_bipush 106 dX8_readWhole_34 (by decide) ?_
    refine V_bipush 111 dX8_readWhole_36 (by decide) ?_
    refine V_bipush 117 dX8_readWhole_38 (by decide) ?_
    refine V_bipush 114 dX8_readWhole_40 (by decide) ?_
    refine V_bipush 110 dX8_readWhole_42 (by decide) ?_
    refine V_bipush 97 dX8_readWhole_44 (by decide) ?_
    refine V_bipush 108 dX8_readWhole_46 (by decide) ?_
    refine V_purS dX8_readWhole_48 lX8_134 (c_M_seven w 106 111 117 114 110 97 108) rfl rfl rfl ?_
    refine V_selfR dX8_readWhole_51 lX8_130 (d_M_isWord w a th tp sz sn gs ps X P (seven 106 111 117 114 110 97 108) hso) rfl rfl 0 rfl rfl rfl rfl ?_
    refine V_ifeq_b 66 dX8_readWhole_54 (by decide) (fun zc1 => ?_) (fun zc1 => ?_)
    · refine V_aload_n dX8_readWhole_66 0 rfl ?_
      refine V_get dX8_readWhole_67 fX8_27 0 rfl rfl ?_
      refine V_if_eq_n P.2.2.1 81 dX8_readWhole_70 (by decide) (by omega) (fun zc2 => ?_) (fun zc2 => ?_)
      · refine V_iconst 1 dX8_readWhole_81 (by decide) ?_
        refine V_goto 86 dX8_readWhole_82 (by decide) ?_
        refine V_zret dX8_readWhole_86 rfl rfl (nb rfl) (nb rfl) ?_
        have hr : mWe (mJs (X 1) sz na (m + 1) nj P) = (true, P) := by grind [mWe, mJs]
        exact ⟨by rw [hr] <;> rfl, by rw [hr]⟩
      · refine V_aload_n dX8_readWhole_73 0 rfl ?_
        refine V_iconst 1 dX8_readWhole_74 (by decide) ?_
        refine V_selfE (ws' := c9 w a th tp sz sn gs ps X (mBad 1 P)) dX8_readWhole_75 lX8_109 (d_M_bad w a th tp sz sn gs ps X P 1 hso) rfl rfl 0 rfl rfl rfl rfl ?_
        refine V_ifeq_b 85 dX8_readWhole_78 (by decide) (fun zc3 => ?_) (fun zc3 => ?_)
        · refine V_iconst 0 dX8_readWhole_85 (by decide) ?_
          refine V_zret dX8_readWhole_86 rfl rfl (nb rfl) (nb rfl) ?_
          have hr : mWe (mJs (X 1) sz na (m + 1) nj P) = (false, (mBad 1 P)) := by grind [mWe, mJs]
          exact ⟨by rw [hr] <;> rfl, by rw [hr]⟩
        · refine V_iconst 1 dX8_readWhole_81 (by decide) ?_
          refine V_goto 86 dX8_readWhole_82 (by decide) ?_
          refine V_zret dX8_readWhole_86 rfl rfl (nb rfl) (nb rfl) ?_
          have hr : mWe (mJs (X 1) sz na (m + 1) nj P) = (true, (mBad 1 P)) := by grind [mWe, mJs]
          exact ⟨by rw [hr] <;> rfl, by rw [hr]⟩
    · have hjw := zc1
      refine V_aload_n dX8_readWhole_57 0 rfl ?_
      refine V_selfE (ws' := c9 w a th tp sz sn gs ps X ((mRJ (X 1) sz na nj P).2)) dX8_readWhole_58 lX8_154 (d_M_readJournal w a th tp sz sn gs ps X P na nj hna hnj h0 h1 hz hs hq hso) rfl rfl 0 rfl rfl rfl rfl ?_
      refine V_ifne_b 33 dX8_readWhole_61 (by decide) (fun zc4 => ?_) (fun zc4 => ?_)
      · have hjj := zc4
        obtain ⟨g1, g2, g3, g4, g5, g6⟩ := mRJ_ok hq hnj hjj
        rw [show mJs (X 1) sz na (m + 1) nj P = mJs (X 1) sz na m (nj + 1) (mRJ (X 1) sz na nj P).2 by rw [mJs, if_pos hjw, if_pos hjj]]
        exact ih (nj + 1) (mRJ (X 1) sz na nj P).2 (by omega) (by omega) (g2.trans h0) g3 (fun k k1 k2 => (g4 k k1).trans (hz k (by omega) k2)) g5 g6
      · refine V_iconst 0 dX8_readWhole_64 (by decide) ?_
        refine V_zret dX8_readWhole_65 rfl rfl (nb rfl) (nb rfl) ?_
        have hr : mWe (mJs (X 1) sz na (m + 1) nj P) = (false, ((mRJ (X 1) sz na nj P).2)) := by grind [mWe, mJs]
        exact ⟨by rw [hr] <;> rfl, by rw [hr]⟩

set_option maxRecDepth 100000 in
set_option maxHeartbeats 4000000 in
theorem lp_M_as (w : vWd) (a : Nat → Nat) (th : Int32) (tp sz sn gs ps : Nat) (X : Nat → Nat → Int32) (hs : sz ≤ 640) : ∀ (m : Nat) (na : Nat) (P : MP), (13 ≤ na + m) → (na ≤ 12) → (rdO P 0 = nI na) → (rdO P 1 = nI 0) → (∀ k, 50 + 15 * 0 ≤ k → k < 500 → rdO P k = 0) → (P.1 ≤ sz) → (P.2.2.1 ≤ 4) → V w mX8_readWhole (vc w 6 0 0 (qE (some (.int (bi (mWj (X 1) sz (mAs (X 1) sz m na P)).1))) (c9 w a th tp sz sn gs ps X (mWj (X 1) sz (mAs (X 1) sz m na P)).2))) 0 0 0 [(0, .ref (a 0))] [] (c9 w a th tp sz sn gs ps X P) := by
  intro m
  induction m with
  | zero =>
    intro na P hm hna h0 h1 hz hq hso
    exact absurd hm (by omega)
  | succ m ih =>
    intro na P hm hna h0 h1 hz hq hso
    refine V_aload_n dX8_readWhole_0 0 rfl ?_
    refine V_bipush 97 dX8_readWhole_1 (by decide) ?_
    refine V_bipush 99 dX8_readWhole_3 (by decide) ?_
    refine V_bipush 99 dX8_readWhole_5 (by decide) ?_
    refine V_bipush 111 dX8_readWhole_7 (by decide) ?_
    refine V_bipush 117 dX8_readWhole_9 (by decide) ?_
    refine V_bipush 110 dX8_readWhole_11 (by decide) ?_
    refine V_bipush 116 dX8_readWhole_13 (by decide) ?_
    refine V_purS dX8_readWhole_15 lX8_134 (c_M_seven w 97 99 99 111 117 110 116) rfl rfl rfl ?_
    refine V_selfR dX8_readWhole_18 lX8_130 (d_M_isWord w a th tp sz sn gs ps X P (seven 97 99 99 111 117 110 116) hso) rfl rfl 0 rfl rfl rfl rfl ?_
    refine V_ifeq_b 33 dX8_readWhole_21 (by decide) (fun zc1 => ?_) (fun zc1 => ?_)
    · rw [show mWj (X 1) sz (mAs (X 1) sz (m + 1) na P) = mWe (mJs (X 1) sz na 13 0 P) by rw [mAs, if_neg (by rw [zc1]; decide)]; rfl]
      exact lp_M_js w a th tp sz sn gs ps X na hs hna 13 0 P (by omega) (by omega) h0 h1 hz hq hso
    · have hjw := zc1
      refine V_aload_n dX8_readWhole_24 0 rfl ?_
      refine V_selfE (ws' := c9 w a th tp sz sn gs ps X ((mRA (X 1) sz na P).2)) dX8_readWhole_25 lX8_150 (d_M_readAccount w a th tp sz sn gs ps X P na hna h0 hs hq hso) rfl rfl 0 rfl rfl rfl rfl ?_
      refine V_ifne_b 0 dX8_readWhole_28 (by decide) (fun zc2 => ?_) (fun zc2 => ?_)
      · have hjj := zc2
        obtain ⟨g1, g2, g3, g4, g5, g6⟩ := mRA_ok hq hna hjj
        rw [show mAs (X 1) sz (m + 1) na P = mAs (X 1) sz m (na + 1) (mRA (X 1) sz na P).2 by rw [mAs, if_pos hjw, if_pos hjj]]
        exact ih (na + 1) (mRA (X 1) sz na P).2 (by omega) (by omega) g2 (g3.trans h1) (fun k k1 k2 => (g4 k (by omega)).trans (hz k k1 k2)) g5 g6
      · refine V_iconst 0 dX8_readWhole_31 (by decide) ?_
        refine V_zret dX8_readWhole_32 rfl rfl (nb rfl) (nb rfl) ?_
        have hr : mWj (X 1) sz (mAs (X 1) sz (m + 1) na P) = (false, ((mRA (X 1) sz na P).2)) := by grind [mWj, mAs]
        exact ⟨by rw [hr] <;> rfl, by rw [hr]⟩

set_option maxRecDepth 100000 in
set_option maxHeartbeats 4000000 in
theorem d_M_readWhole (w : vWd) (a : Nat → Nat) (th : Int32) (tp sz sn gs ps : Nat) (X : Nat → Nat → Int32) (P : MP) (h0 : rdO P 0 = 0) (h1 : rdO P 1 = 0) (hz : ∀ k, 50 ≤ k → k < 500 → rdO P k = 0) (hs : sz ≤ 640) (hq : P.1 ≤ sz) (hso : P.2.2.1 ≤ 4) : Ct w mX8_readWhole 6 0 0 [.ref (a 0)] (c9 w a th tp sz sn gs ps X P) (qE (some (.int (bi (mW (X 1) sz P).1))) (c9 w a th tp sz sn gs ps X (mW (X 1) sz P).2)) := by
  refine Ct.of (L := [(0, .ref (a 0))]) (by decide) rfl rfl ?_
  exact lp_M_as w a th tp sz sn gs ps X hs 13 0 P (by omega) (by omega) h0 h1 hz hq hso
