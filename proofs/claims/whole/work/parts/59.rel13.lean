/-! 59: amounts and lines -/
theorem stR_keep (T : TP) (P : RP) : (stR T P).2.2.2.2 = P.2.2.2.2 := by
  unfold stR stE
  split
  · split
    · rfl
    · split
      · rfl
      · rfl
  · rfl
/-- alike: token, places, the kind of the fault so far -/
def rR (T : TP) (P : RP) (M : MP) : Prop := tkR T P M ∧ okR T P ∧ P.2.2.2.2.2.1 = M.2.2.2.2.1
/-- the token, as each has it -/
theorem rR_tok {T : TP} {P : RP} {M : MP} (h : rR T P M) : ((P.1 = 3) = (M.2.2.1 = 3)) ∧ ((P.1 = 5) = (mSg 45 M = true)) ∧ ((P.1 = 4) = (mSg 59 M = true)) ∧ ((P.1 = 0 ∧ T.1 ≤ 600) = (M.2.2.1 = 0)) ∧ (2 ≤ P.1 → M.1 = P.2.2.1) ∧ (P.1 = 3 → P.2.2.2.1 = M.2.2.2.1 ∧ 0 ≤ P.2.2.2.1.toInt ∧ P.2.2.2.1.toInt < 100000) ∧ P.2.1 = M.2.1 := by
  obtain ⟨⟨h0, h⟩, -, -⟩ := h
  have s45 : (45 : Int32).toInt64 = 45 := by decide
  have s59 : (59 : Int32).toInt64 = 59 := by decide
  have ne : ¬ (59 : Int64) = 45 := by decide
  have ne2 : ¬ (45 : Int64) = 59 := by decide
  unfold mSg
  rw [s45, s59]
  rcases h with ⟨e, q⟩ | ⟨e, q⟩ | ⟨e, q, q2, -⟩ | ⟨e, q, q2, q3, q4, q5⟩ | ⟨e, q, q2, q3⟩ | ⟨e, q, q2, q3⟩
  · rcases q with ⟨q1, q⟩ | ⟨q1, q⟩
    · simp [e, q, q1, h0]
    · simp [e, q, h0]; omega
  · simp [e, q, h0]
  · simp [e, q, q2, h0]
  · simp [e, q, q2, q3, h0]
    rw [q3] at q4 q5
    exact ⟨q4, q5⟩
  · simp [e, q, q2, q3, h0, ne]
  · simp [e, q, q2, q3, h0, ne2]
theorem go_eq {T : TP} {t : Nat → Int32} (ht : tpR T t) {P P' : RP} {M M' : MP} (h : rR T P M) (h2 : 2 ≤ P.1) (e1 : P'.2.2.1 = P.2.2.1) (e2 : M'.1 = M.1) (e3 : P'.2.2.2.2.2.1 = P.2.2.2.2.2.1) (e4 : M'.2.2.2.2.1 = M.2.2.2.2.1) : rR T (stR T P') (mGo t T.1 M') :=
  ⟨step_eq ht (by rw [e1, e2]; exact ((rR_tok h).2.2.2.2.1 h2).symm) (by rw [e1]; exact h.2.1.1), okR_st, by rw [stR_keep, e3, h.2.2]; exact e4.symm⟩
def ftR (P : RP) (M : MP) : Prop := P.2.2.2.2.2.1 = M.2.2.2.2.1 ∧ P.2.2.2.2.2.2 = M.2.2.2.2.2.1
theorem bad_1 {T : TP} {P : RP} {M : MP} (h : rR T P M) : ftR (rRf 1 P) (mBad 1 M) := ⟨by show 1 = if _ then 1 else 1; split <;> rfl, (rR_tok h).2.2.2.2.2.2⟩
theorem bad_k {T : TP} {P : RP} {M : MP} (h : rR T P M) {k : Nat} (hs : M.2.2.1 ≠ 1) : ftR (rRf k P) (mBad k M) := ⟨by show k = if M.2.2.1 = 1 then 1 else k; rw [if_neg hs], (rR_tok h).2.2.2.2.2.2⟩
/-- an amount -/
theorem am_eq {T : TP} {t : Nat → Int32} (ht : tpR T t) {P : RP} {M : MP} (h : rR T P M) {lo : Int32} (hlo : 0 ≤ lo.toInt) : (rAm T P lo).1 = (mTA t T.1 lo M).1 ∧ ((mTA t T.1 lo M).1 = true → rR T (rAm T P lo).2 (mTA t T.1 lo M).2 ∧ (rAm T P lo).2.2.2.2.2.1 = gtO (mTA t T.1 lo M).2 ∧ rdO (mTA t T.1 lo M).2 = rdO M ∧ -99999 ≤ gtO (mTA t T.1 lo M).2 ∧ gtO (mTA t T.1 lo M).2 ≤ 99999) ∧ ((mTA t T.1 lo M).1 = false → ftR (rAm T P lo).2 (mTA t T.1 lo M).2) := by
  have t0 := rR_tok h
  have h1 : rR T (am1 T P) (mT1 t T.1 M) := by
    unfold am1 mT1
    by_cases c : P.1 = 5
    · rw [if_pos c, if_pos (t0.2.1 ▸ c)]
      exact go_eq ht h (by omega) rfl rfl rfl rfl
    · rw [if_neg c, if_neg (fun q => c (t0.2.1 ▸ q))]
      exact h
  have hrd : rdO (mT1 t T.1 M) = rdO M := by unfold mT1; split <;> rfl
  have t1 := rR_tok h1
  unfold rAm mTA mTk
  generalize hP1 : am1 T P = P1 at h1 t1
  generalize hM1 : mT1 t T.1 M = M1 at h1 t1 hrd
  by_cases c3 : P1.1 = 3
  · have m3 : M1.2.2.1 = 3 := t1.1 ▸ c3
    obtain ⟨v1, v2, v3⟩ := t1.2.2.2.2.2.1 c3
    rw [if_pos c3, if_pos m3]
    have e9 : (99999 : Int32).toInt = 99999 := by decide
    have hin : isInB M1.2.2.2.1 lo 99999 = decide (¬ P1.2.2.2.1 < lo) := by
      rw [← v1]
      unfold isInB
      rw [Bool.eq_iff_iff]
      simp only [Bool.and_eq_true, decide_eq_true_eq, Int32.lt_iff_toInt_lt, Int32.le_iff_toInt_le, e9]
      omega
    rw [hin]
    by_cases cl : P1.2.2.2.1 < lo
    · rw [if_pos cl]
      simp only [cl, not_true_eq_false, decide_false]
      refine ⟨rfl, fun q => absurd (show false = true from q) (by decide), fun _ => bad_k h1 (by rw [m3]; decide)⟩
    · rw [if_neg cl]
      simp only [cl, not_false_eq_true, decide_true, if_true]
      have e99 : (-99999 : Int32).toInt = -99999 := by decide
      by_cases c5 : P.1 = 5
      · have s5 : mSg 45 M = true := t0.2.1 ▸ c5
        rw [if_pos c5]
        simp only [s5, if_true]
        refine ⟨trivial, fun _ => ⟨?_, ?_, ?_, ?_⟩, fun q => absurd q (by decide)⟩
        · have := go_eq ht (P := P1) (P' := rAmt (-P1.2.2.2.1) P1) (M := M1) (M' := mGt M1.2.2.2.1 M1) h1 (by omega) rfl rfl rfl rfl
          exact this
        · show (stR T (rAmt (-P1.2.2.2.1) P1)).2.2.2.2.1 = -M1.2.2.2.1
          rw [stR_keep, ← v1]
          rfl
        · exact hrd
        · show -99999 ≤ -M1.2.2.2.1 ∧ -M1.2.2.2.1 ≤ 99999
          rw [← v1]
          have e4 : (-P1.2.2.2.1).toInt = -P1.2.2.2.1.toInt := neg_toI (i0_le.mpr v2)
          simp only [Int32.le_iff_toInt_le, e9, e99, e4]
          omega
      · have s5 : mSg 45 M = false := by
          cases e : mSg 45 M with
          | false => rfl
          | true => exact absurd (t0.2.1.symm ▸ e : P.1 = 5) c5
        rw [if_neg c5]
        simp only [s5]
        refine ⟨trivial, fun _ => ⟨?_, ?_, ?_, ?_⟩, fun q => absurd q (by decide)⟩
        · have := go_eq ht (P := P1) (P' := rAmt P1.2.2.2.1 P1) (M := M1) (M' := mGt M1.2.2.2.1 M1) h1 (by omega) rfl rfl rfl rfl
          exact this
        · show (stR T (rAmt P1.2.2.2.1 P1)).2.2.2.2.1 = M1.2.2.2.1
          rw [stR_keep, ← v1]
          rfl
        · exact hrd
        · show -99999 ≤ M1.2.2.2.1 ∧ M1.2.2.2.1 ≤ 99999
          rw [← v1]
          simp only [Int32.le_iff_toInt_le, e9, e99]
          omega
  · have m3 : ¬ M1.2.2.1 = 3 := fun q => c3 (t1.1.symm ▸ q)
    rw [if_neg c3, if_neg m3]
    exact ⟨rfl, fun q => absurd (show false = true from q) (by decide), fun _ => bad_1 h1⟩
/-- the lines of a journal that is read: e is where its numbers begin -/
def lnR (na : Nat) (J : JP) (N : Nat → Int32) (e nl : Nat) : Prop := J.2.1 = nl ∧ nl ≤ 6 ∧ (0 < nl → N (e + 2) = nI nl) ∧ ∀ k, k < nl → N (e + 3 + 2 * k) = J.2.2.2.2.2 0 k ∧ N (e + 3 + 2 * k + 1) = J.2.2.2.2.2 1 k ∧ (∃ a, a < na ∧ J.2.2.2.2.2 0 k = nI a) ∧ -99999 ≤ J.2.2.2.2.2 1 k ∧ J.2.2.2.2.2 1 k ≤ 99999
/-- what a line leaves alone -/
def lnK (J J' : JP) (N N' : Nat → Int32) (e : Nat) : Prop := J'.1 = J.1 ∧ J'.2.2.2.2.1 = J.2.2.2.2.1 ∧ ∀ q, q < e + 2 ∨ e + 15 ≤ q → N' q = N q
theorem lnK.rf (J : JP) (N : Nat → Int32) (e : Nat) : lnK J J N N e := ⟨rfl, rfl, fun _ _ => rfl⟩
theorem lnK.tr {J K L : JP} {N N' N'' : Nat → Int32} {e : Nat} (h : lnK J K N N' e) (g : lnK K L N' N'' e) : lnK J L N N'' e := ⟨g.1.trans h.1, g.2.1.trans h.2.1, fun q hq => (g.2.2 q hq).trans (h.2.2 q hq)⟩
theorem inb_eq {T : TP} {P : RP} {M : MP} (h : rR T P M) (b : Int32) : ((inb P b).1 = true ↔ P.1 = 3 ∧ P.2.2.2.1 < b) ∧ ((inb P b).1 = true → (inb P b).2 = P) ∧ (M.2.2.1 = 3 → ¬ P.2.2.2.1 < b → inb P b = (false, rRf 2 P)) ∧ (¬ M.2.2.1 = 3 → inb P b = (false, rRf 1 P)) := by
  have t0 := rR_tok h
  unfold inb
  by_cases c : P.1 = 3
  · rw [if_pos c]
    by_cases c2 : P.2.2.2.1 < b
    · rw [if_pos c2]
      exact ⟨⟨fun _ => ⟨c, c2⟩, fun _ => rfl⟩, fun _ => rfl, fun _ q => absurd c2 q, fun q => absurd (t0.1 ▸ c) q⟩
    · rw [if_neg c2]
      exact ⟨⟨fun q => absurd (show false = true from q) (by decide), fun q => absurd q.2 c2⟩, fun q => absurd (show false = true from q) (by decide), fun _ _ => rfl, fun q => absurd (t0.1 ▸ c) q⟩
  · rw [if_neg c]
    exact ⟨⟨fun q => absurd (show false = true from q) (by decide), fun q => absurd q.1 c⟩, fun q => absurd (show false = true from q) (by decide), fun q => absurd (t0.1.symm ▸ q) c, fun _ => rfl⟩
theorem ln_eq {T : TP} {t : Nat → Int32} (ht : tpR T t) {P : RP} {M : MP} (h : rR T P M) {na nl e : Nat} (hna : na ≤ 12) (hnl : nl < 6) {J : JP} (hJ : lnR na J (rdO M) e nl) : (rLn T P J (nI na)).1 = (mRL t T.1 na e nl M).1 ∧ ((mRL t T.1 na e nl M).1 = true → rR T (rLn T P J (nI na)).2.1 (mRL t T.1 na e nl M).2 ∧ lnR na (rLn T P J (nI na)).2.2 (rdO (mRL t T.1 na e nl M).2) e (nl + 1) ∧ lnK J (rLn T P J (nI na)).2.2 (rdO M) (rdO (mRL t T.1 na e nl M).2) e ∧ jSum (rLn T P J (nI na)).2.2 (nl + 1) = jSum J nl + gtO (mRL t T.1 na e nl M).2) ∧ ((mRL t T.1 na e nl M).1 = false → ftR (rLn T P J (nI na)).2.1 (mRL t T.1 na e nl M).2) := by
  have t0 := rR_tok h
  obtain ⟨b1, b2, b3, b4⟩ := inb_eq h (nI na)
  unfold rLn mRL
  by_cases c3 : M.2.2.1 = 3
  · have p3 : P.1 = 3 := t0.1.symm ▸ c3
    obtain ⟨v1, v2, v3⟩ := t0.2.2.2.2.2.1 p3
    rw [if_pos c3, ← v1]
    by_cases cl : P.2.2.2.1 < nI na
    · rw [if_pos (b1.mpr ⟨p3, cl⟩), if_pos cl, if_neg (show ¬ nl = 6 by omega), b2 (b1.mpr ⟨p3, cl⟩)]
      have hg := go_eq ht (P := P) (P' := P) (M := M) (M' := mL1 e nl M) h (by omega) rfl rfl rfl rfl
      obtain ⟨a1, a2, a3⟩ := am_eq ht hg (lo := 1) (by decide)
      unfold mL2
      rw [a1]
      cases hm : (mTA t T.1 1 (mGo t T.1 (mL1 e nl M))).1 with
      | false =>
        rw [if_neg (by decide), if_neg (by decide)]
        exact ⟨rfl, fun q => absurd (show false = true from q) (by decide), fun _ => a3 hm⟩
      | true =>
        rw [if_pos rfl, if_pos rfl]
        obtain ⟨r1, r2, r3, r4⟩ := a2 hm
        obtain ⟨j1, j2, j3, j4⟩ := hJ
        have hadd : jAdd J P.2.2.2.1 (rAm T (stR T P) 1).2.2.2.2.2.1 = (J.1, J.2.1 + 1, J.2.2.1, J.2.2.2.1, J.2.2.2.2.1, uX (uX J.2.2.2.2.2 0 (upd (J.2.2.2.2.2 0) J.2.1 P.2.2.2.1)) 1 (upd (J.2.2.2.2.2 1) J.2.1 (rAm T (stR T P) 1).2.2.2.2.2.1)) := by
          unfold jAdd
          rw [if_pos (by omega)]
        have hx : ∃ a, a < na ∧ P.2.2.2.1 = nI a := by
          obtain ⟨a, ha, ea⟩ := nI_of (x := P.2.2.2.1) (fun q => by
            have := Int32.lt_iff_toInt_lt.mp q
            have z : (0 : Int32).toInt = 0 := rfl
            omega)
          rw [ea] at cl
          exact ⟨a, (nI_ltI ha (by omega)).mp cl, ea⟩
        have hN : rdO (mL3 t T.1 e nl M) = upd (upd (upd (rdO M) (e + 3 + 2 * nl) P.2.2.2.1) (e + 3 + 2 * nl + 1) (gtO (mTA t T.1 1 (mGo t T.1 (mL1 e nl M))).2)) (e + 2) (nI (nl + 1)) := by
          show upd (upd (rdO (mTA t T.1 1 (mGo t T.1 (mL1 e nl M))).2) (e + 3 + 2 * nl + 1) (gtO (mTA t T.1 1 (mGo t T.1 (mL1 e nl M))).2)) (e + 2) (nI (nl + 1)) = _
          rw [r3, v1]
          rfl
        refine ⟨rfl, fun _ => ⟨?_, ?_, ?_, ?_⟩, fun q => absurd (show true = false from q) (by decide)⟩
        · exact r1
        · show lnR na (jAdd J P.2.2.2.1 (rAm T (stR T P) 1).2.2.2.2.2.1) (rdO (mL3 t T.1 e nl M)) e (nl + 1)
          rw [hadd, hN, r2]
          refine ⟨by show J.2.1 + 1 = nl + 1; omega, by omega, fun _ => by rw [upd_s], fun k hk => ?_⟩
          show upd (upd (upd (rdO M) (e + 3 + 2 * nl) P.2.2.2.1) (e + 3 + 2 * nl + 1) (gtO (mTA t T.1 1 (mGo t T.1 (mL1 e nl M))).2)) (e + 2) (nI (nl + 1)) (e + 3 + 2 * k) = upd (J.2.2.2.2.2 0) J.2.1 P.2.2.2.1 k ∧ upd (upd (upd (rdO M) (e + 3 + 2 * nl) P.2.2.2.1) (e + 3 + 2 * nl + 1) (gtO (mTA t T.1 1 (mGo t T.1 (mL1 e nl M))).2)) (e + 2) (nI (nl + 1)) (e + 3 + 2 * k + 1) = upd (J.2.2.2.2.2 1) J.2.1 (gtO (mTA t T.1 1 (mGo t T.1 (mL1 e nl M))).2) k ∧ (∃ a, a < na ∧ upd (J.2.2.2.2.2 0) J.2.1 P.2.2.2.1 k = nI a) ∧ -99999 ≤ upd (J.2.2.2.2.2 1) J.2.1 (gtO (mTA t T.1 1 (mGo t T.1 (mL1 e nl M))).2) k ∧ upd (J.2.2.2.2.2 1) J.2.1 (gtO (mTA t T.1 1 (mGo t T.1 (mL1 e nl M))).2) k ≤ 99999
          by_cases ek : k = nl
          · subst ek
            rw [j1, upd_s, upd_s, upd_n (by omega), upd_n (by omega), upd_s, upd_n (by omega), upd_s]
            exact ⟨rfl, rfl, hx, r4⟩
          · rw [upd_n (by omega), upd_n (by omega), upd_n (by omega), upd_n (by omega), upd_n (by omega), upd_n (by omega), upd_n (by omega), upd_n (by omega)]
            exact j4 k (by omega)
        · show lnK J (jAdd J P.2.2.2.1 (rAm T (stR T P) 1).2.2.2.2.2.1) (rdO M) (rdO (mL3 t T.1 e nl M)) e
          rw [hadd, hN]
          exact ⟨rfl, rfl, fun q hq => by rw [upd_n (by omega), upd_n (by omega), upd_n (by omega)]⟩
        · show jSum (jAdd J P.2.2.2.1 (rAm T (stR T P) 1).2.2.2.2.2.1) (nl + 1) = jSum J nl + gtO (mTA t T.1 1 (mGo t T.1 (mL1 e nl M))).2
          have hs : ∀ m, m ≤ nl → jSum (jAdd J P.2.2.2.1 (rAm T (stR T P) 1).2.2.2.2.2.1) m = jSum J m := by
            intro m
            induction m with
            | zero => intro _; rfl
            | succ m ih =>
              intro hm2
              rw [jSum, jSum, ih (by omega), hadd]
              show jSum J m + upd (J.2.2.2.2.2 1) J.2.1 _ m = _
              rw [upd_n (by omega)]
          rw [jSum, hs nl (Nat.le_refl _), hadd, r2]
          show jSum J nl + upd (J.2.2.2.2.2 1) J.2.1 _ nl = _
          rw [j1, upd_s]
    · rw [b3 c3 cl, if_neg (show ¬ (false, rRf 2 P).1 = true from Bool.false_ne_true), if_neg cl]
      exact ⟨rfl, fun q => absurd (show false = true from q) (by decide), fun _ => bad_k h (by rw [c3]; decide)⟩
  · rw [b4 c3, if_neg (show ¬ (false, rRf 1 P).1 = true from Bool.false_ne_true), if_neg c3]
    exact ⟨rfl, fun q => absurd (show false = true from q) (by decide), fun _ => bad_1 h⟩
