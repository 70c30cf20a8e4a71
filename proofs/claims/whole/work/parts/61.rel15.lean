/-! 61: accounts as they are read; the whole text -/
theorem kd_rng (M : MP) : mKd M ≠ -1 → 0 ≤ mKd M ∧ mKd M < 6 := by
  unfold mKd
  intro h
  repeat' split
  all_goals first | decide | (exfalso; simp_all)
theorem ac_eq {T : TP} {t : Nat → Int32} (ht : tpR T t) {P : RP} {M : MP} (hR : rR T P M) (hw : P.1 = 2) {B : BP} (hB : rdB B (rdO M)) (hj0 : B.2.1 = 0) : (rAc T P B).1 = (mRA t T.1 B.1 M).1 ∧ ((mRA t T.1 B.1 M).1 = true → rR T (rAc T P B).2.1 (mRA t T.1 B.1 M).2 ∧ rdB (rAc T P B).2.2 (rdO (mRA t T.1 B.1 M).2) ∧ (rAc T P B).2.2.1 = B.1 + 1 ∧ (rAc T P B).2.2.2.1 = 0) ∧ ((mRA t T.1 B.1 M).1 = false → ftR (rAc T P B).2.1 (mRA t T.1 B.1 M).2) := by
  obtain ⟨o1, o2, o3, o4, o5, o6, o7, o8⟩ := id hB
  have ms : M.2.2.1 = 2 := by
    rcases hR.1.2 with ⟨e, -⟩ | ⟨e, -⟩ | ⟨e, q, -⟩ | ⟨e, -⟩ | ⟨e, -⟩ | ⟨e, -⟩
    · omega
    · omega
    · exact q
    · omega
    · omega
    · omega
  have h12 := o1.1
  unfold rAc mRA
  by_cases c : B.1 < 12
  · rw [if_pos c, if_neg (show ¬ B.1 = 12 by omega)]
    have hg := go_eq ht (P := P) (P' := P) (M := M) (M' := M) hR (by omega) rfl rfl rfl rfl
    have hk := kd_eq hg.1
    rw [hk]
    by_cases ck : mKd (mGo t T.1 M) = -1
    · rw [if_pos ck, if_pos ck]
      exact ⟨rfl, fun q => ft q, fun _ => bad_1 (rR_mRd _ hg)⟩
    · rw [if_neg ck, if_neg ck]
      have hr2 := kd_rng _ ck
      -- the token is a word
      have hw2 : (stR T P).1 = 2 := by
        by_cases e : (stR T P).1 = 2
        · exact e
        · exfalso
          apply ck
          rw [← hk]
          have hz : ∀ i, wdB T (stR T P) i = false := fun i => by unfold wdB; rw [decide_eq_false e]; rfl
          simp [kdF, hz]
      have hg2 := go_eq ht (P := stR T P) (P' := stR T P) (M := mGo t T.1 M) (M' := mA2 t T.1 B.1 M) hg (by omega) rfl rfl rfl rfl
      obtain ⟨a1, a2, a3⟩ := am_eq ht hg2 (lo := 0) (by decide)
      unfold ac2
      rw [a1]
      unfold mA3
      cases hm : (mTA t T.1 0 (mGo t T.1 (mA2 t T.1 B.1 M))).1 with
      | false =>
        rw [if_neg (by decide), if_neg (by decide)]
        exact ⟨rfl, fun q => ft q, fun _ => a3 hm⟩
      | true =>
        rw [if_pos rfl, if_pos rfl]
        obtain ⟨r1, r2, r3, r4⟩ := a2 hm
        have hrow : rdO (mA4 t T.1 B.1 M) = upd (upd (upd (rdO M) (2 + 4 * B.1 + 0) (mKd (mGo t T.1 M))) (2 + 4 * B.1 + 1) (gtO (mTA t T.1 0 (mGo t T.1 (mA2 t T.1 B.1 M))).2)) 0 (nI (B.1 + 1)) := by
          unfold mA4 mA3
          rw [mRd_rd, r3, mGo_rd]
          unfold mA2
          rw [mRd_rd, mGo_rd]
        have hr4 : rR T (rAm T (stR T (stR T P)) 0).2 (mA4 t T.1 B.1 M) := by
          unfold mA4 mA3
          exact rR_mRd _ r1
        have t4 := rR_tok hr4
        by_cases c4 : (rAm T (stR T (stR T P)) 0).2.1 = 4
        · have s4 : mSg 59 (mA4 t T.1 B.1 M) = true := t4.2.2.1 ▸ c4
          rw [if_pos c4, if_pos s4]
          have hadd : bAddA B (mKd (mGo t T.1 M)) (rAm T (stR T (stR T P)) 0).2.2.2.2.2.1 = (B.1 + 1, B.2.1, uX (uX (uX B.2.2.1 0 (upd (B.2.2.1 0) B.1 (mKd (mGo t T.1 M)))) 1 (upd (B.2.2.1 1) B.1 (rAm T (stR T (stR T P)) 0).2.2.2.2.2.1)) 2 (upd (B.2.2.1 2) B.1 (-100000000)), B.2.2.2) := by
            unfold bAddA
            rw [if_pos c]
          have hX : ∀ a, a ≠ B.1 → ∀ k, uX (uX (uX B.2.2.1 0 (upd (B.2.2.1 0) B.1 (mKd (mGo t T.1 M)))) 1 (upd (B.2.2.1 1) B.1 (rAm T (stR T (stR T P)) 0).2.2.2.2.2.1)) 2 (upd (B.2.2.1 2) B.1 (-100000000)) k a = B.2.2.1 k a := fun a ha k => by
            by_cases k2 : k = 2
            · subst k2; rw [uX_s, upd_n ha]
            · rw [uX_n k2]
              by_cases k1 : k = 1
              · subst k1; rw [uX_s, upd_n ha]
              · rw [uX_n k1]
                by_cases k0 : k = 0
                · subst k0; rw [uX_s, upd_n ha]
                · rw [uX_n k0]
          refine ⟨rfl, fun _ => ⟨go_eq ht hr4 (by omega) rfl rfl rfl rfl, ?_, ?_, ?_⟩, fun q => ft q.symm⟩
          · show rdB (bAddA B (mKd (mGo t T.1 M)) (rAm T (stR T (stR T P)) 0).2.2.2.2.2.1) (rdO (mGo t T.1 (mA4 t T.1 B.1 M)))
            rw [mGo_rd, hrow, hadd, r2]
            refine ⟨⟨by show B.1 + 1 ≤ 12; omega, o1.2.1, o1.2.2⟩, o2, ?_, ?_, fun i hi => ?_, fun j hj => ?_, fun i h1 h2 k hk => ?_, fun j h1 h2 k hk => ?_⟩
            · rw [upd_s]
            · rw [upd_n (by omega), upd_n (by omega), upd_n (by omega)]; exact o4
            · have hi' : i < B.1 + 1 := hi
              by_cases ei : i = B.1
              · subst ei
                refine ⟨?_, ?_, ?_, Or.inl ⟨?_, ?_, ?_⟩⟩
                · rw [upd_n (by omega), upd_n (by omega)]
                  show upd (rdO M) (2 + 4 * B.1 + 0) _ (2 + 4 * B.1 + 0) = upd (B.2.2.1 0) B.1 _ B.1
                  rw [upd_s, upd_s]
                · rw [upd_n (by omega), upd_s]
                  show _ = upd (B.2.2.1 1) B.1 _ B.1
                  rw [upd_s]
                · show 0 ≤ upd (B.2.2.1 0) B.1 _ B.1 ∧ upd (B.2.2.1 0) B.1 _ B.1 < 6
                  rw [upd_s]
                  exact hr2
                · show upd (B.2.2.1 2) B.1 _ B.1 = _
                  rw [upd_s]
                · rw [upd_n (by omega), upd_n (by omega), upd_n (by omega)]
                  exact o7 B.1 (Nat.le_refl _) c 2 (by omega)
                · rw [upd_n (by omega), upd_n (by omega), upd_n (by omega)]
                  exact o7 B.1 (Nat.le_refl _) c 3 (by omega)
              · refine aRel_X (fun k _ => ?_) (aRel_cg (fun k hk => ?_) (o5 i (by omega)))
                · have := hX i ei k
                  rw [r2] at this
                  exact this
                · rw [upd_n (by omega), upd_n (by omega), upd_n (by omega)]
            · have hj' : j < B.2.1 := hj
              omega
            · have h1' : B.1 + 1 ≤ i := h1
              rw [upd_n (by omega), upd_n (by omega), upd_n (by omega)]
              exact o7 i (by omega) h2 k hk
            · rw [upd_n (by omega), upd_n (by omega), upd_n (by omega)]
              exact o8 j h1 h2 k hk
          · show (bAddA B (mKd (mGo t T.1 M)) (rAm T (stR T (stR T P)) 0).2.2.2.2.2.1).1 = B.1 + 1
            rw [hadd]
          · show (bAddA B (mKd (mGo t T.1 M)) (rAm T (stR T (stR T P)) 0).2.2.2.2.2.1).2.1 = 0
            rw [hadd]
            exact hj0
        · have s4 : ¬ mSg 59 (mA4 t T.1 B.1 M) = true := fun q => c4 (t4.2.2.1.symm ▸ q)
          rw [if_neg c4, if_neg s4]
          exact ⟨rfl, fun q => ft q, fun _ => bad_1 hr4⟩
  · rw [if_neg c, if_pos (show B.1 = 12 by omega)]
    exact ⟨rfl, fun q => ft q, fun _ => bad_k hR (by rw [ms]; decide)⟩
theorem word_2 {T : TP} {P : RP} {i : Nat} (h : wdB T P i = true) : P.1 = 2 := by
  unfold wdB at h
  simp only [Bool.and_eq_true, decide_eq_true_eq] at h
  exact h.1
theorem acs_eq {T : TP} {t : Nat → Int32} (ht : tpR T t) : ∀ (m : Nat) (P : RP) (M : MP) (B : BP), B.1 + m = 13 → rR T P M → rdB B (rdO M) → B.2.1 = 0 →
    (acL T m P B).1 = (mAs t T.1 m B.1 M).1 ∧ ((mAs t T.1 m B.1 M).1 = true → rR T (acL T m P B).2.1 (mAs t T.1 m B.1 M).2.2 ∧ rdB (acL T m P B).2.2 (rdO (mAs t T.1 m B.1 M).2.2) ∧ (mAs t T.1 m B.1 M).2.1 = (acL T m P B).2.2.1 ∧ (acL T m P B).2.2.2.1 = 0) ∧ ((mAs t T.1 m B.1 M).1 = false → ftR (acL T m P B).2.1 (mAs t T.1 m B.1 M).2.2) := by
  intro m
  induction m with
  | zero =>
    intro P M B hm hR hB hj
    have := hB.1.1
    omega
  | succ m ih =>
    intro P M B hm hR hB hj
    have hw := wd_eq hR.1 (i := 6) (by omega)
    rw [acL, mAs, hw]
    show _ ∧ _ ∧ _
    by_cases c : mWd wAcc M = true
    · rw [if_pos (show mWd (kW 6) M = true from c), if_pos c]
      have p2 : P.1 = 2 := word_2 (i := 6) (hw.trans c)
      obtain ⟨a1, a2, a3⟩ := ac_eq ht hR p2 hB hj
      rw [a1]
      cases hm2 : (mRA t T.1 B.1 M).1 with
      | true =>
        rw [if_pos rfl, if_pos rfl]
        obtain ⟨b1, b2, b3, b4⟩ := a2 hm2
        have hi := ih (rAc T P B).2.1 (mRA t T.1 B.1 M).2 (rAc T P B).2.2 (by omega) b1 b2 b4
        rw [b3] at hi
        exact hi
      | false =>
        rw [if_neg (by decide), if_neg (by decide)]
        exact ⟨rfl, fun q => ft q, fun _ => a3 hm2⟩
    · rw [if_neg (show ¬ mWd (kW 6) M = true from c), if_neg c]
      exact ⟨rfl, fun _ => ⟨hR, hB, rfl, hj⟩, fun q => ft q.symm⟩
theorem jns_eq {T : TP} {t : Nat → Int32} (ht : tpR T t) : ∀ (m : Nat) (P : RP) (M : MP) (B : BP), B.2.1 + m = 13 → rR T P M → rdB B (rdO M) →
    (jnL T m P B).1 = (mJs t T.1 B.1 m B.2.1 M).1 ∧ ((mJs t T.1 B.1 m B.2.1 M).1 = true → rR T (jnL T m P B).2.1 (mJs t T.1 B.1 m B.2.1 M).2.2 ∧ rdB (jnL T m P B).2.2 (rdO (mJs t T.1 B.1 m B.2.1 M).2.2)) ∧ ((mJs t T.1 B.1 m B.2.1 M).1 = false → ftR (jnL T m P B).2.1 (mJs t T.1 B.1 m B.2.1 M).2.2) := by
  intro m
  induction m with
  | zero =>
    intro P M B hm hR hB
    have := hB.2.1
    omega
  | succ m ih =>
    intro P M B hm hR hB
    have hw := wd_eq hR.1 (i := 7) (by omega)
    rw [jnL, mJs, hw]
    show _ ∧ _ ∧ _
    by_cases c : mWd wJou M = true
    · rw [if_pos (show mWd (kW 7) M = true from c), if_pos c]
      have p2 : P.1 = 2 := word_2 (i := 7) (hw.trans c)
      obtain ⟨a1, a2, a3⟩ := jn_eq ht hR p2 hB
      rw [a1]
      cases hm2 : (mRJ t T.1 B.1 B.2.1 M).1 with
      | true =>
        rw [if_pos rfl, if_pos rfl]
        obtain ⟨b1, b2, b3, b4⟩ := a2 hm2
        have hi := ih (rJn T P B).2.1 (mRJ t T.1 B.1 B.2.1 M).2 (rJn T P B).2.2 (by omega) b1 b2
        rw [b3, b4] at hi
        exact hi
      | false =>
        rw [if_neg (by decide), if_neg (by decide)]
        exact ⟨rfl, fun q => ft q, fun _ => a3 hm2⟩
    · rw [if_neg (show ¬ mWd (kW 7) M = true from c), if_neg c]
      exact ⟨rfl, fun _ => ⟨hR, hB⟩, fun q => ft q.symm⟩
/-- the whole text: both take it, or both refuse it at the same place for the same fault -/
theorem rd_eq {T : TP} {t : Nat → Int32} (ht : tpR T t) {P : RP} {B : BP} (hB : okB B) {Z : ZT} (hZ : Z.1 = T.1) (f : Nat → Int32) : (rdW T P B).1 = (mTx t Z f).1 ∧ ((mTx t Z f).1 = true → rdB (rdW T P B).2.2 (rdO (mTx t Z f).2)) ∧ (rdW T P B).2.1.2.2.2.2.2.1 = (mTx t Z f).2.2.2.2.2.1 ∧ ((mTx t Z f).1 = false → (rdW T P B).2.1.2.2.2.2.2.2 = (mTx t Z f).2.2.2.2.2.2.1) := by
  unfold rdW mTx
  rw [hZ]
  have h0 : rR T (stR T (rd0 P)) (mGo t T.1 (tx0 Z f)) := ⟨step_eq ht rfl (Nat.zero_le _), okR_st, by rw [stR_keep]; rfl⟩
  have hb0 : rdB (0, 0, B.2.2) (rdO (mGo t T.1 (tx0 Z f))) := by
    have e : rdO (mGo t T.1 (tx0 Z f)) = cps f 0 (fun _ => 0) 500 := rfl
    have z : ∀ q, q < 500 → cps f 0 (fun _ => 0) 500 q = 0 := fun q hq => by rw [cps_at, if_pos ⟨by omega, by omega⟩]
    rw [e]
    refine ⟨⟨Nat.zero_le _, Nat.zero_le _, hB.2.2⟩, Nat.zero_le _, z 0 (by omega), z 1 (by omega), fun i hi => absurd hi (Nat.not_lt_zero i), fun j hj => absurd hj (Nat.not_lt_zero j), fun i _ h2 k hk => z _ (by omega), fun j _ h2 k hk => z _ (by omega)⟩
  obtain ⟨a1, a2, a3⟩ := acs_eq ht 13 _ _ (0, 0, B.2.2) rfl h0 hb0 rfl
  have a1' : (acL T 13 (stR T (rd0 P)) (0, 0, B.2.2)).1 = (mAs t T.1 13 0 (mGo t T.1 (tx0 Z f))).1 := a1
  unfold mW rd2 mWj
  rw [a1']
  cases hm : (mAs t T.1 13 0 (mGo t T.1 (tx0 Z f))).1 with
  | false =>
    rw [if_neg (by decide), if_neg (by decide)]
    have := a3 hm
    exact ⟨rfl, fun q => ft q, this.1, fun _ => this.2⟩
  | true =>
    rw [if_pos rfl, if_pos rfl]
    obtain ⟨b1, b2, b3, b4⟩ := a2 hm
    have b3' : (mAs t T.1 13 0 (mGo t T.1 (tx0 Z f))).2.1 = (acL T 13 (stR T (rd0 P)) (0, 0, B.2.2)).2.2.1 := b3
    rw [b3']
    generalize acL T 13 (stR T (rd0 P)) (0, 0, B.2.2) = X at b1 b2 b4
    have b1' : rR T X.2.1 (mAs t T.1 13 0 (mGo t T.1 (tx0 Z f))).2.2 := b1
    have b2' : rdB X.2.2 (rdO (mAs t T.1 13 0 (mGo t T.1 (tx0 Z f))).2.2) := b2
    generalize (mAs t T.1 13 0 (mGo t T.1 (tx0 Z f))).2.2 = M1 at b1' b2'
    obtain ⟨c1, c2, c3⟩ := jns_eq ht 13 X.2.1 M1 X.2.2 (by omega) b1' b2'
    rw [b4] at c1 c2 c3
    unfold rd3 mWe
    rw [c1]
    cases hm2 : (mJs t T.1 X.2.2.1 13 0 M1).1 with
    | false =>
      rw [if_neg (by decide), if_neg (by decide)]
      have := c3 hm2
      exact ⟨rfl, fun q => ft q, this.1, fun _ => this.2⟩
    | true =>
      rw [if_pos rfl, if_pos rfl]
      obtain ⟨d1, d2⟩ := c2 hm2
      have t1 := rR_tok d1
      by_cases c0 : (jnL T 13 X.2.1 X.2.2).2.1.1 = 0 ∧ T.1 ≤ 600
      · have m0 : (mJs t T.1 X.2.2.1 13 0 M1).2.2.2.2.1 = 0 := t1.2.2.2.1 ▸ c0
        rw [if_pos c0, if_pos m0]
        exact ⟨rfl, fun _ => d2, d1.2.2, fun q => ft q.symm⟩
      · have m0 : ¬ (mJs t T.1 X.2.2.1 13 0 M1).2.2.2.2.1 = 0 := fun q => c0 (t1.2.2.2.1.symm ▸ q)
        rw [if_neg c0, if_neg m0]
        have := bad_1 d1
        exact ⟨rfl, fun q => ft q, this.1, fun _ => this.2⟩
