/-! 60: journals and accounts as they are read -/
theorem ft {p : Prop} (q : false = true) : p := absurd q (by decide)
theorem mGo_rd (t : Nat → Int32) (n : Nat) (M : MP) : rdO (mGo t n M) = rdO M := rfl
theorem mGo_gt (t : Nat → Int32) (n : Nat) (M : MP) : gtO (mGo t n M) = gtO M := rfl
theorem mGt_rd (x : Int32) (M : MP) : rdO (mGt x M) = rdO M := rfl
theorem mGt_gt (x : Int32) (M : MP) : gtO (mGt x M) = x := rfl
theorem mRd_rd (f : Nat → Int32) (M : MP) : rdO (mRd f M) = f := rfl
theorem rR_mRd {T : TP} {P : RP} {M : MP} (f : Nat → Int32) (h : rR T P M) : rR T P (mRd f M) := h
theorem lns_eq {T : TP} {t : Nat → Int32} (ht : tpR T t) {na nj e : Nat} (hna : na ≤ 12) : ∀ (m nl : Nat) (P : RP) (M : MP) (J : JP) (su : Int32), nl + m = 6 → rR T P M → lnR na J (rdO M) e nl → su = jSum J nl →
    (lnE T (nI na) (lnL T (nI na) m nl P J)).1 = (mRJe t T.1 nj (mLs t T.1 na e (m + 1) nl su M)).1 ∧ ((mRJe t T.1 nj (mLs t T.1 na e (m + 1) nl su M)).1 = true → rR T (lnE T (nI na) (lnL T (nI na) m nl P J)).2.1 (mRJe t T.1 nj (mLs t T.1 na e (m + 1) nl su M)).2 ∧ ∃ (n' : Nat) (N2 : Nat → Int32), 2 ≤ n' ∧ lnR na (lnE T (nI na) (lnL T (nI na) m nl P J)).2.2 N2 e n' ∧ jSum (lnE T (nI na) (lnL T (nI na) m nl P J)).2.2 n' = 0 ∧ rdO (mRJe t T.1 nj (mLs t T.1 na e (m + 1) nl su M)).2 = upd N2 1 (nI (nj + 1)) ∧ lnK J (lnE T (nI na) (lnL T (nI na) m nl P J)).2.2 (rdO M) N2 e) ∧ ((mRJe t T.1 nj (mLs t T.1 na e (m + 1) nl su M)).1 = false → ftR (lnE T (nI na) (lnL T (nI na) m nl P J)).2.1 (mRJe t T.1 nj (mLs t T.1 na e (m + 1) nl su M)).2) := by
  intro m
  induction m with
  | zero =>
    intro nl P M J su hm hR hJ hsu
    have t0 := rR_tok hR
    have hL : lnL T (nI na) 0 nl P J = (true, P, J) := rfl
    rw [hL, mLs]
    by_cases c4 : P.1 = 4
    · have s4 : mSg 59 M = true := t0.2.2.1 ▸ c4
      rw [if_neg (show ¬ (nl < 2 ∨ mSg 59 M = false) by rw [s4]; simp; omega)]
      unfold lnE mRJe
      rw [if_pos (show (true, P, J).1 = true from rfl), if_pos (show (true, P, J).2.1.1 = 4 from c4), if_pos (show (true, su, M).1 = true from rfl)]
      show _ ∧ _ ∧ _
      have e1 : jSum (true, P, J).2.2 (true, P, J).2.2.2.1 = su := by rw [hsu, ← hJ.1]
      by_cases c0 : su = 0
      · rw [if_pos (show jSum (true, P, J).2.2 (true, P, J).2.2.2.1 = 0 by rw [e1]; exact c0), if_pos (show (true, su, M).2.1 = 0 from c0)]
        refine ⟨rfl, fun _ => ⟨go_eq ht hR (by omega) rfl rfl rfl rfl, nl, rdO M, by omega, hJ, by rw [← c0, hsu], rfl, lnK.rf _ _ _⟩, fun q => ft q.symm⟩
      · rw [if_neg (show ¬ jSum (true, P, J).2.2 (true, P, J).2.2.2.1 = 0 by rw [e1]; exact c0), if_neg (show ¬ (true, su, M).2.1 = 0 from c0)]
        refine ⟨rfl, fun q => ft q, fun _ => bad_k hR ?_⟩
        unfold mSg at s4
        simp only [Bool.and_eq_true, decide_eq_true_eq] at s4
        omega
    · have s4 : mSg 59 M = false := by
        cases e : mSg 59 M with
        | false => rfl
        | true => exact absurd (t0.2.2.1.symm ▸ e : P.1 = 4) c4
      rw [if_pos (Or.inr s4)]
      obtain ⟨b1, b2, b3, b4⟩ := inb_eq hR (nI na)
      have hnl6 : nl = 6 := by omega
      unfold lnE
      rw [if_pos (show (true, P, J).1 = true from rfl), if_neg (show ¬ (true, P, J).2.1.1 = 4 from c4)]
      show _ ∧ _ ∧ _
      have hmr : (mRL t T.1 na e nl M).1 = false ∧ ftR (if (inb P (nI na)).1 = true then rRf 3 (inb P (nI na)).2 else (inb P (nI na)).2) (mRL t T.1 na e nl M).2 := by
        unfold mRL
        by_cases c3 : M.2.2.1 = 3
        · have p3 : P.1 = 3 := t0.1.symm ▸ c3
          obtain ⟨v1, v2, v3⟩ := t0.2.2.2.2.2.1 p3
          rw [if_pos c3, ← v1]
          by_cases cl : P.2.2.2.1 < nI na
          · rw [if_pos cl, if_pos hnl6, if_pos (b1.mpr ⟨p3, cl⟩), b2 (b1.mpr ⟨p3, cl⟩)]
            exact ⟨rfl, bad_k hR (by rw [c3]; decide)⟩
          · rw [if_neg cl, b3 c3 cl, if_neg (show ¬ (false, rRf 2 P).1 = true from Bool.false_ne_true)]
            exact ⟨rfl, bad_k hR (by rw [c3]; decide)⟩
        · rw [if_neg c3, b4 c3, if_neg (show ¬ (false, rRf 1 P).1 = true from Bool.false_ne_true)]
          exact ⟨rfl, bad_1 hR⟩
      rw [if_neg (show ¬ (mRL t T.1 na e nl M).1 = true by rw [hmr.1]; decide)]
      unfold mRJe
      rw [if_neg (show ¬ (false, su, (mRL t T.1 na e nl M).2).1 = true from Bool.false_ne_true)]
      exact ⟨rfl, fun q => ft q, fun _ => hmr.2⟩
  | succ m ih =>
    intro nl P M J su hm hR hJ hsu
    have t0 := rR_tok hR
    rw [mLs, lnL]
    by_cases c4 : 2 ≤ nl ∧ P.1 = 4
    · have s4 : mSg 59 M = true := t0.2.2.1 ▸ c4.2
      rw [if_pos c4, if_neg (show ¬ (nl < 2 ∨ mSg 59 M = false) by rw [s4]; simp; omega)]
      unfold lnE mRJe
      rw [if_pos (show (true, P, J).1 = true from rfl), if_pos (show (true, P, J).2.1.1 = 4 from c4.2), if_pos (show (true, su, M).1 = true from rfl)]
      show _ ∧ _ ∧ _
      have e1 : jSum (true, P, J).2.2 (true, P, J).2.2.2.1 = su := by rw [hsu, ← hJ.1]
      by_cases c0 : su = 0
      · rw [if_pos (show jSum (true, P, J).2.2 (true, P, J).2.2.2.1 = 0 by rw [e1]; exact c0), if_pos (show (true, su, M).2.1 = 0 from c0)]
        refine ⟨rfl, fun _ => ⟨go_eq ht hR (by omega) rfl rfl rfl rfl, nl, rdO M, by omega, hJ, by rw [← c0, hsu], rfl, lnK.rf _ _ _⟩, fun q => ft q.symm⟩
      · rw [if_neg (show ¬ jSum (true, P, J).2.2 (true, P, J).2.2.2.1 = 0 by rw [e1]; exact c0), if_neg (show ¬ (true, su, M).2.1 = 0 from c0)]
        refine ⟨rfl, fun q => ft q, fun _ => bad_k hR ?_⟩
        unfold mSg at s4
        simp only [Bool.and_eq_true, decide_eq_true_eq] at s4
        omega
    · have s4 : nl < 2 ∨ mSg 59 M = false := by
        by_cases c2 : nl < 2
        · exact Or.inl c2
        · right
          cases e : mSg 59 M with
          | false => rfl
          | true => exact absurd ⟨by omega, (t0.2.2.1.symm ▸ e : P.1 = 4)⟩ c4
      rw [if_neg c4, if_pos s4]
      obtain ⟨l1, l2, l3⟩ := ln_eq ht hR hna (by omega) hJ
      rw [l1]
      cases hmr : (mRL t T.1 na e nl M).1 with
      | true =>
        rw [if_pos rfl, if_pos rfl]
        obtain ⟨r1, r2, r3, r4⟩ := l2 hmr
        obtain ⟨i1, i2, i3⟩ := ih (nl + 1) (rLn T P J (nI na)).2.1 (mRL t T.1 na e nl M).2 (rLn T P J (nI na)).2.2 (su + gtO (mRL t T.1 na e nl M).2) (by omega) r1 r2 (by rw [r4, hsu])
        refine ⟨i1, fun q => ?_, i3⟩
        obtain ⟨z1, n', N2, z2, z3, z4, z5, z6⟩ := i2 q
        exact ⟨z1, n', N2, z2, z3, z4, z5, r3.tr z6⟩
      | false =>
        rw [if_neg (by decide), if_neg (by decide)]
        unfold lnE mRJe
        rw [if_neg (show ¬ (false, (rLn T P J (nI na)).2.1, (rLn T P J (nI na)).2.2).1 = true from Bool.false_ne_true), if_neg (show ¬ (false, su, (mRL t T.1 na e nl M).2).1 = true from Bool.false_ne_true)]
        exact ⟨rfl, fun q => ft q, fun _ => l3 hmr⟩
/-- a journal as it was read: not settled yet -/
def jR0 (na : Nat) (J : JP) (N : Nat → Int32) (j : Nat) : Prop :=
  N (50 + 15 * j + 0) = J.1 ∧ (0 ≤ J.1 ∧ J.1 < 20) ∧ N (50 + 15 * j + 1) = bi J.2.2.2.2.1 ∧ N (50 + 15 * j + 2) = nI J.2.1 ∧ (∀ k, k < J.2.1 → N (50 + 15 * j + (3 + 2 * k)) = J.2.2.2.2.2 0 k ∧ mAm N j k = J.2.2.2.2.2 1 k ∧ ∃ a, a < na ∧ J.2.2.2.2.2 0 k = nI a) ∧ jFit J
theorem jR0_cg {na na' j : Nat} {J : JP} {N N' : Nat → Int32} (hna : na ≤ na') (h : ∀ k, k < 15 → N' (50 + 15 * j + k) = N (50 + 15 * j + k)) (r : jR0 na J N j) : jR0 na' J N' j := by
  obtain ⟨j1, j2, j3, j4, j5, j6⟩ := r
  have h6 := j6.2.1
  refine ⟨by rw [h 0 (by omega)]; exact j1, j2, by rw [h 1 (by omega)]; exact j3, by rw [h 2 (by omega)]; exact j4, fun k hk => ?_, j6⟩
  obtain ⟨a, b, c, d, e⟩ := j5 k hk
  refine ⟨by rw [h (3 + 2 * k) (by omega)]; exact a, ?_, c, by omega, e⟩
  unfold mAm at b ⊢
  rw [h (3 + 2 * k + 1) (by omega)]
  exact b
/-- the book as far as it was read -/
def rdB (B : BP) (N : Nat → Int32) : Prop :=
  okB B ∧ B.2.1 ≤ 12 ∧ N 0 = nI B.1 ∧ N 1 = nI B.2.1 ∧ (∀ i, i < B.1 → aRel B.2.2.1 N i) ∧ (∀ j, j < B.2.1 → jR0 B.1 (B.2.2.2 j) N j) ∧ (∀ i, B.1 ≤ i → i < 12 → ∀ k, k < 4 → N (2 + 4 * i + k) = 0) ∧ ∀ j, B.2.1 ≤ j → j < 30 → ∀ k, k < 15 → N (50 + 15 * j + k) = 0
set_option maxRecDepth 100000 in
theorem jn_eq {T : TP} {t : Nat → Int32} (ht : tpR T t) {P : RP} {M : MP} (hR : rR T P M) (hw : P.1 = 2) {B : BP} (hB : rdB B (rdO M)) : (rJn T P B).1 = (mRJ t T.1 B.1 B.2.1 M).1 ∧ ((mRJ t T.1 B.1 B.2.1 M).1 = true → rR T (rJn T P B).2.1 (mRJ t T.1 B.1 B.2.1 M).2 ∧ rdB (rJn T P B).2.2 (rdO (mRJ t T.1 B.1 B.2.1 M).2) ∧ (rJn T P B).2.2.2.1 = B.2.1 + 1 ∧ (rJn T P B).2.2.1 = B.1) ∧ ((mRJ t T.1 B.1 B.2.1 M).1 = false → ftR (rJn T P B).2.1 (mRJ t T.1 B.1 B.2.1 M).2) := by
  obtain ⟨o1, o2, o3, o4, o5, o6, o7, o8⟩ := id hB
  have ms : M.2.2.1 = 2 := by
    rcases hR.1.2 with ⟨e, -⟩ | ⟨e, -⟩ | ⟨e, q, -⟩ | ⟨e, -⟩ | ⟨e, -⟩ | ⟨e, -⟩
    · omega
    · omega
    · exact q
    · omega
    · omega
    · omega
  have h12 := o1.1
  unfold rJn mRJ
  by_cases c : B.2.1 < 12
  · rw [if_pos c, if_neg (show ¬ B.2.1 = 12 by omega)]
    have hg := go_eq ht (P := P) (P' := P) (M := M) (M' := M) hR (by omega) rfl rfl rfl rfl
    have t1 := rR_tok hg
    obtain ⟨b1, b2, b3, b4⟩ := inb_eq hg 20
    unfold jn1 mJ2 mJ1 mTk
    by_cases c3 : (mGo t T.1 M).2.2.1 = 3
    · have p3 : (stR T P).1 = 3 := t1.1.symm ▸ c3
      obtain ⟨v1, v2, v3⟩ := t1.2.2.2.2.2.1 p3
      have e20 : (20 : Int32).toInt = 20 := by decide
      have e19 : (19 : Int32).toInt = 19 := by decide
      have e0 : (0 : Int32).toInt = 0 := by decide
      have hin : isInB (mGo t T.1 M).2.2.2.1 0 19 = decide ((stR T P).2.2.2.1 < 20) := by
        rw [← v1]
        unfold isInB
        rw [Bool.eq_iff_iff]
        simp only [Bool.and_eq_true, decide_eq_true_eq, Int32.lt_iff_toInt_lt, Int32.le_iff_toInt_le, e20, e19, e0]
        omega
      rw [if_pos c3, hin]
      by_cases cl : (stR T P).2.2.2.1 < 20
      · rw [if_pos (b1.mpr ⟨p3, cl⟩), b2 (b1.mpr ⟨p3, cl⟩)]
        simp only [cl, decide_true, if_true]
        have hg2 := go_eq ht (P := stR T P) (P' := stR T P) (M := mGo t T.1 M) (M' := mGt (mGo t T.1 M).2.2.2.1 (mGo t T.1 M)) hg (by omega) rfl rfl rfl rfl
        have hg3 := rR_mRd (upd (rdO (mGo t T.1 (mGt (mGo t T.1 M).2.2.2.1 (mGo t T.1 M)))) (50 + 15 * B.2.1 + 0) (gtO (mGo t T.1 (mGt (mGo t T.1 M).2.2.2.1 (mGo t T.1 M))))) hg2
        have hrow : rdO (mRd (upd (rdO (mGo t T.1 (mGt (mGo t T.1 M).2.2.2.1 (mGo t T.1 M)))) (50 + 15 * B.2.1 + 0) (gtO (mGo t T.1 (mGt (mGo t T.1 M).2.2.2.1 (mGo t T.1 M))))) (mGo t T.1 (mGt (mGo t T.1 M).2.2.2.1 (mGo t T.1 M)))) = upd (rdO M) (50 + 15 * B.2.1 + 0) (stR T P).2.2.2.1 := by
          rw [mRd_rd, mGo_rd, mGo_gt, mGt_gt, mGt_rd, mGo_rd, v1]
        generalize mRd (upd (rdO (mGo t T.1 (mGt (mGo t T.1 M).2.2.2.1 (mGo t T.1 M)))) (50 + 15 * B.2.1 + 0) (gtO (mGo t T.1 (mGt (mGo t T.1 M).2.2.2.1 (mGo t T.1 M))))) (mGo t T.1 (mGt (mGo t T.1 M).2.2.2.1 (mGo t T.1 M))) = M3 at hg3 hrow
        obtain ⟨z1, z2, z3⟩ := lns_eq ht (nj := B.2.1) (e := 50 + 15 * B.2.1) h12 6 0 (stR T (stR T P)) M3 (jBegin (stR T P).2.2.2.1 (B.2.2.2 B.2.1)) 0 (by omega) hg3 ⟨rfl, by omega, fun q => absurd q (by omega), fun k hk => absurd hk (by omega)⟩ rfl
        refine ⟨z1, fun q => ?_, z3⟩
        obtain ⟨y1, n', N2, y2, y3, y4, y5, y6⟩ := z2 q
        have hokJ : okJ (lnE T (nI B.1) (lnL T (nI B.1) 6 0 (stR T (stR T P)) (jBegin (stR T P).2.2.2.1 (B.2.2.2 B.2.1)))).2.2 := (ok_lnE (ok_lnL okR_st ⟨by show 0 ≤ 6; omega, by show 0 ≤ 6; omega, by show 0 ≤ 6; omega⟩)).2
        generalize lnE T (nI B.1) (lnL T (nI B.1) 6 0 (stR T (stR T P)) (jBegin (stR T P).2.2.2.1 (B.2.2.2 B.2.1))) = X at y1 y3 y4 y6 hokJ
        obtain ⟨k1, k2, k3⟩ := y6
        rw [hrow] at k3
        obtain ⟨w1, w2, w3, w4⟩ := y3
        have hper : X.2.2.1 = (stR T P).2.2.2.1 := k1
        have hstr : X.2.2.2.2.2.2.1 = false := k2
        have hN0 : ∀ k, k < 15 → (∀ q, q < 50 + 15 * B.2.1 ∨ 50 + 15 * B.2.1 + 15 ≤ q → N2 q = rdO M q) := fun _ _ q hq => by
          rw [k3 q (by omega), upd_n (by omega)]
        have hout := hN0 0 (by omega)
        have hfit : jFit X.2.2 := by
          refine ⟨by omega, by omega, fun k hk => (w4 k (by omega)).2.2.2, ?_⟩
          have : ∀ n, isum (X.2.2.2.2.2.2.2 1) n = jSum X.2.2 n := by
            intro n
            induction n with
            | zero => rfl
            | succ n ih => rw [isum, jSum, ih]
          rw [this, w1]
          exact y4
        refine ⟨y1, ?_, rfl, rfl⟩
        rw [y5]
        refine ⟨okB_jn o1 (by omega) hokJ, by show B.2.1 + 1 ≤ 12; omega, ?_, ?_, fun i hi => ?_, fun j hj => ?_, fun i h1 h2 k hk => ?_, fun j h1 h2 k hk => ?_⟩
        · rw [upd_n (by omega), hout 0 (by omega)]; exact o3
        · rw [upd_s]; rfl
        · have hi' : i < B.1 := hi
          exact aRel_cg (fun k hk => by rw [upd_n (by omega), hout _ (by omega)]) (o5 i hi')
        · have hj' : j < B.2.1 + 1 := hj
          show jR0 B.1 (uX B.2.2.2 B.2.1 X.2.2 j) _ j
          by_cases ej : j = B.2.1
          · subst ej
            rw [uX_s]
            refine ⟨?_, ?_, ?_, ?_, fun k hk => ?_, hfit⟩
            · rw [upd_n (by omega), k3 _ (by omega), upd_s, hper]
            · rw [hper]
              exact ⟨i0_le.mpr v2, cl⟩
            · rw [upd_n (by omega), k3 _ (by omega), upd_n (by omega), hstr]
              exact o8 B.2.1 (Nat.le_refl _) (by omega) 1 (by omega)
            · rw [upd_n (by omega), w3 (by omega), w1]
            · obtain ⟨q1, q2, q3, q4⟩ := w4 k (by omega)
              unfold mAm
              refine ⟨?_, ?_, q3⟩
              · rw [upd_n (by omega), ← q1]; congr 1; omega
              · rw [upd_n (by omega), ← q2]; congr 1; omega
          · rw [uX_n ej]
            exact jR0_cg (Nat.le_refl _) (fun k hk => by rw [upd_n (by omega), hout _ (by omega)]) (o6 j (by omega))
        · have h1' : B.1 ≤ i := h1
          rw [upd_n (by omega), hout _ (by omega)]
          exact o7 i h1' h2 k hk
        · have h1' : B.2.1 + 1 ≤ j := h1
          rw [upd_n (by omega), hout _ (by omega)]
          exact o8 j (by omega) h2 k hk
      · rw [b3 c3 cl]
        simp only [cl, decide_false]
        exact ⟨rfl, fun q => ft q, fun _ => bad_k hg (by rw [c3]; decide)⟩
    · rw [b4 c3, if_neg c3]
      exact ⟨rfl, fun q => ft q, fun _ => bad_1 hg⟩
  · rw [if_neg c, if_pos (show B.2.1 = 12 by omega)]
    exact ⟨rfl, fun q => ft q, fun _ => bad_k hR (by rw [ms]; decide)⟩
