/-! 54: each act, and its taking back -/
theorem bRel_n {B B2 : BP} {N N1 : Nat → Int32} (h : bRel B N) (h2 : bRel B2 N1) (e0 : N1 0 = N 0) : B2.1 = B.1 := by
  have a := h.1.1
  have b := h2.1.1
  have e : nI B2.1 = nI B.1 := by rw [← h2.2.1, e0, h.2.1]
  exact (nI_eq (by omega) (by omega)).mp e
theorem bRel_m {B2 : BP} {N1 : Nat → Int32} (h2 : bRel B2 N1) {n : Nat} (hn : n ≤ 31) (e0 : N1 1 = nI n) : B2.2.1 = n := by
  have b := h2.1.2.1
  have e : nI B2.2.1 = nI n := by rw [← h2.2.2.1, e0]
  exact (nI_eq (by omega) (by omega)).mp e
theorem in_R {B : BP} (hB : okB B) {k : Nat} (hk : k < B.2.1) : inR B.2.1 (nI k) = true := by
  rw [inR_nI hB.2.1 (by have := hB.2.1; omega)]
  exact decide_eq_true hk
theorem hOne_more {B : BP} {N : Nat → Int32} (h : bRel B N) {k n : Nat} (hk : k < B.2.1) (hn : (B.2.2.2 k).2.1 = n) (h4 : n ≤ 4) {x y m : Int32} : hOne 1 (nI k) (-1) (adF N k n x y m) N := by
  intro B2 G hb
  have h30 := h.1.2.1
  have e1 : B2.1 = B.1 := bRel_n h hb (adF_out (by omega))
  have e2 : B2.2.1 = B.2.1 := bRel_m hb (by omega) (by rw [adF_out (by omega)]; exact h.2.2.1)
  have hk2 : k < B2.2.1 := by omega
  obtain ⟨j1, j2, j3, j4, j5, j6, j7, j8⟩ := h.2.2.2.2 k hk
  obtain ⟨i1, i2, i3, i4, i5, i6, i7, i8⟩ := hb.2.2.2.2 k hk2
  have hc : (nI k).toNatClampNeg = k := nI_cl (by omega)
  have h2n : 2 ≤ n := by have := j6.1; omega
  have hl : (B2.2.2.2 k).2.1 = n + 2 := by
    have q := i6.2.1
    rw [(@adF_at N k n x y m).1] at i4
    exact ((nI_eq (by omega) (by omega)).mp i4).symm
  refine ⟨fun _ _ => by rw [hc, hl]; omega, ?_⟩
  have e : (dTkb G B2 1 (nI k) (-1)).2 = setJ B2 k (stl (jDrop (B2.2.2.2 k)) G).2 := by
    unfold dTkb
    rw [if_neg (by decide), if_pos rfl, if_pos (in_R hb.1 hk2), hc]
  rw [e]
  have hdl : (jDrop (B2.2.2.2 k)).2.1 = n := by show (B2.2.2.2 k).2.1 - 2 = n; omega
  have ok2 := hb.1.2.2 k (by have := hb.1.2.1; omega)
  refine bRel_setJ hb hk2 (fun q hq => (adF_out (by omega)).symm) ?_ (okJ_stl (J := jDrop (B2.2.2.2 k)) ⟨by rw [hdl]; omega, ok2.2⟩ (by rw [hdl]; omega) G)
  have hline : ∀ q, q < n → N (50 + 15 * k + (3 + 2 * q)) = (B2.2.2.2 k).2.2.2.2.2 0 q ∧ mAm N k q = (B2.2.2.2 k).2.2.2.2.2 1 q := fun q hq => by
    obtain ⟨a, b, -⟩ := i5 q (by omega)
    unfold mAm at b ⊢
    rw [adF_out (by omega)] at a b
    exact ⟨a, b⟩
  refine jRel_stl G ?_ ?_ ?_ ?_ (fun q hq => ?_) ?_
  · show N _ = (B2.2.2.2 k).1
    rw [← i1, adF_out (by omega)]
  · exact i2
  · show N _ = bi (B2.2.2.2 k).2.2.2.2.1
    rw [← i3, adF_out (by omega)]
  · rw [hdl, j4, hn]
  · rw [hdl] at hq
    exact ⟨(hline q hq).1, (hline q hq).2, (i5 q (by omega)).2.2⟩
  · refine ⟨by omega, by omega, fun q hq => i6.2.2.1 q (by rw [hdl] at hq; omega), ?_⟩
    rw [hdl]
    show isum ((B2.2.2.2 k).2.2.2.2.2 1) n = 0
    rw [isum_cg (g := (B.2.2.2 k).2.2.2.2.2 1) (fun q hq => by rw [← (hline q hq).2]; exact (j5 q (by omega)).2.1), ← hn]
    exact j6.2.2.2
theorem r_more {A : AP} {B : BP} {sn : Nat} {S N : Nat → Int32} (G : GP) (h : bRel B N) (hh : hRel A sn S N) (j x y m : Int32) : (dMore (G, A, B) j x y m).1 = (mMo N S (rNl B) sn B.1 B.2.1 j x y m).1 ∧ bRel (dMore (G, A, B) j x y m).2.2.2 (mMo N S (rNl B) sn B.1 B.2.1 j x y m).2.2.2 ∧ hRel (dMore (G, A, B) j x y m).2.2.1 (mMo N S (rNl B) sn B.1 B.2.1 j x y m).2.1 (mMo N S (rNl B) sn B.1 B.2.1 j x y m).2.2.1 (mMo N S (rNl B) sn B.1 B.2.1 j x y m).2.2.2 := by
  unfold dMore mMo
  rw [dTf_eq]
  show _
  by_cases c1 : inR B.2.1 j = true ∧ dTf B x y m = true
  · rw [if_pos (show inR (G, A, B).2.2.2.1 j = true ∧ dTf (G, A, B).2.2 x y m = true from c1), if_pos (show (inR B.2.1 j && dTf B x y m) = true by rw [c1.1, c1.2]; rfl)]
    obtain ⟨k, hk, ek, ck⟩ := inR_ex h.1 c1.1
    subst ek
    rw [ck]
    obtain ⟨hx, hy, m1, m2⟩ := dTf_use h.1 c1.2
    obtain ⟨j1, j2, j3, j4, j5, j6, j7, j8⟩ := h.2.2.2.2 k hk
    by_cases c2 : (B.2.2.2 k).2.1 ≤ 4
    · rw [if_pos (show ((G, A, B).2.2.2.2.2 k).2.1 ≤ 4 from c2), if_neg (show ¬ 4 < rNl B k from by show ¬ 4 < (B.2.2.2 k).2.1; omega)]
      refine ⟨?_, ?_, ?_⟩
      · show nI (stl (jTra (B.2.2.2 k) x y m) G).2.2.1 = nI (rNl B k + 2)
        rw [(stl_same (jTra (B.2.2.2 k) x y m) G).2.1, jTra_l c2]
      · exact bRel_setJ h hk (fun q hq => adF_out (by have : rNl B k = (B.2.2.2 k).2.1 := rfl; omega)) (jRel_tra G rfl c2 j1 j2 j3 j5 (Or.inr j6) hx hy m1 m2) (okJ_stl (J := jTra (B.2.2.2 k) x y m) (okJ_add (okJ_add (h.1.2.2 k (by have := h.1.2.1; omega)))) (by rw [jTra_l c2]; omega) G)
      · exact hRel_push hh (hOne_more h hk rfl c2)
    · rw [if_neg (show ¬ ((G, A, B).2.2.2.2.2 k).2.1 ≤ 4 from c2), if_pos (show 4 < rNl B k from by show 4 < (B.2.2.2 k).2.1; omega)]
      exact ⟨rfl, h, hh⟩
  · rw [if_neg (show ¬ (inR (G, A, B).2.2.2.1 j = true ∧ dTf (G, A, B).2.2 x y m = true) from c1), if_neg (show ¬ (inR B.2.1 j && dTf B x y m) = true from fun q => c1 (by simpa using q))]
    exact ⟨rfl, h, hh⟩
theorem bx (b : Bool) : bi b ^^^ 1 = bi (!b) := by cases b <;> decide
theorem r_strike {A : AP} {B : BP} {sn : Nat} {S N : Nat → Int32} (G : GP) (h : bRel B N) (hh : hRel A sn S N) (j : Int32) : (dStr (G, A, B) j).1 = (mSt N S sn B.2.1 j).1 ∧ bRel (dStr (G, A, B) j).2.2.2 (mSt N S sn B.2.1 j).2.2.2 ∧ hRel (dStr (G, A, B) j).2.2.1 (mSt N S sn B.2.1 j).2.1 (mSt N S sn B.2.1 j).2.2.1 (mSt N S sn B.2.1 j).2.2.2 := by
  unfold dStr mSt
  by_cases c1 : inR B.2.1 j = true
  · rw [if_pos (show inR (G, A, B).2.2.2.1 j = true from c1), if_pos c1]
    obtain ⟨k, hk, ek, ck⟩ := inR_ex h.1 c1
    subst ek
    rw [ck]
    obtain ⟨j1, j2, j3, j4, j5, j6, j7, j8⟩ := h.2.2.2.2 k hk
    have h30 := h.1.2.1
    refine ⟨?_, ?_, ?_⟩
    · show bi (!(B.2.2.2 k).2.2.2.2.1) = N (50 + 15 * k + 1) ^^^ 1
      rw [j3, bx]
    · refine bRel_setJ h hk (fun q hq => upd_n (by omega)) ⟨?_, j2, ?_, ?_, fun q hq => ?_, j6, j7, j8⟩ (h.1.2.2 k (by omega))
      · show upd N _ _ _ = _
        rw [upd_n (by omega)]; exact j1
      · show upd N _ _ _ = bi (!(B.2.2.2 k).2.2.2.2.1)
        rw [upd_s, j3, bx]
      · show upd N _ _ _ = _
        rw [upd_n (by omega)]; exact j4
      · obtain ⟨a, b, c⟩ := j5 q hq
        refine ⟨?_, ?_, c⟩
        · show upd N _ _ _ = _
          rw [upd_n (by omega)]; exact a
        · show upd N _ _ _ = _
          rw [upd_n (by omega)]; exact b
    · show hRel (aKeep A 2 (nI k) (-1)) (snN sn) (snS S sn N) (upd N (50 + 15 * k + 1) (N (50 + 15 * k + 1) ^^^ 1))
      refine hRel_push hh (fun B2 G2 hb => ⟨fun q => absurd q (by decide), ?_⟩)
      have e1 : B2.1 = B.1 := bRel_n h hb (upd_n (by omega))
      have e2 : B2.2.1 = B.2.1 := bRel_m hb (by omega) (by rw [upd_n (by omega)]; exact h.2.2.1)
      have hk2 : k < B2.2.1 := by omega
      obtain ⟨i1, i2, i3, i4, i5, i6, i7, i8⟩ := hb.2.2.2.2 k hk2
      have hc : (nI k).toNatClampNeg = k := nI_cl (by omega)
      have e : (dTkb G2 B2 2 (nI k) (-1)).2 = setJ B2 k (jTog (B2.2.2.2 k)) := by
        unfold dTkb
        rw [if_neg (by decide), if_neg (by decide), if_pos rfl, if_pos (in_R hb.1 hk2), hc]
      rw [e]
      refine bRel_setJ hb hk2 (fun q hq => (upd_n (by omega)).symm) ⟨?_, i2, ?_, ?_, fun q hq => ?_, i6, i7, i8⟩ (hb.1.2.2 k (by omega))
      · show N _ = _
        rw [upd_n (by omega)] at i1; exact i1
      · show N _ = bi (!(B2.2.2.2 k).2.2.2.2.1)
        rw [upd_s, j3, bx] at i3
        rw [j3, ← bi_inj i3]
        cases (B.2.2.2 k).2.2.2.2.1 <;> rfl
      · show N _ = _
        rw [upd_n (by omega)] at i4; exact i4
      · obtain ⟨a, b, c⟩ := i5 q hq
        unfold mAm at b ⊢
        rw [upd_n (by omega)] at a b
        exact ⟨a, b, c⟩
  · rw [if_neg (show ¬ inR (G, A, B).2.2.2.1 j = true from c1), if_neg c1]
    exact ⟨rfl, h, hh⟩
theorem setX_n {B : BP} (hB : okB B) {i k : Nat} (hi : i < B.1) {v : Int32} : bSetX B k (nI i) v = (B.1, B.2.1, uX B.2.2.1 k (upd (B.2.2.1 k) i v), B.2.2.2) := by
  unfold bSetX
  rw [if_pos (r_inA hB hi), cl12 hi hB.1]
theorem uXu {X : Nat → Nat → Int32} {k i : Nat} {v : Int32} {a : Nat} (h : a ≠ i) (q : Nat) : uX X k (upd (X k) i v) q a = X q a := by
  by_cases e : q = k
  · subst e; rw [uX_s, upd_n h]
  · rw [uX_n e]
theorem r_tell {A : AP} {B : BP} {sn : Nat} {S N : Nat → Int32} (G : GP) (h : bRel B N) (hh : hRel A sn S N) (x y : Int32) : bi (dTel (G, A, B) x y).1 = (mTe N S sn B.1 x y).1 ∧ bRel (dTel (G, A, B) x y).2.2.2 (mTe N S sn B.1 x y).2.2.2 ∧ hRel (dTel (G, A, B) x y).2.2.1 (mTe N S sn B.1 x y).2.1 (mTe N S sn B.1 x y).2.2.1 (mTe N S sn B.1 x y).2.2.2 := by
  unfold dTel mTe
  have hcond : ((inA B.1 x && isInB y (-9999999) 9999999) = true) = (inA B.1 x = true ∧ -9999999 ≤ y ∧ y ≤ 9999999) := by
    unfold isInB
    simp only [Bool.and_eq_true, decide_eq_true_eq]
  simp only [hcond]
  by_cases c1 : inA B.1 x = true ∧ -9999999 ≤ y ∧ y ≤ 9999999
  · rw [if_pos (show inA (G, A, B).2.2.1 x = true ∧ -9999999 ≤ y ∧ y ≤ 9999999 from c1), if_pos c1]
    obtain ⟨i, hi, rfl⟩ := inA_ex h.1 c1.1
    have h12 := h.1.1
    rw [cl12 hi h12]
    obtain ⟨a1, a2, a3, a4⟩ := h.2.2.2.1 i hi
    have hne : y ≠ -100000000 := fun e => by rw [e] at c1; exact absurd c1.2.1 (by decide)
    have ht : bTold B (nI i) = B.2.2.1 2 i := by unfold bTold; rw [r_inA h.1 hi, cl12 hi h12]; rfl
    refine ⟨rfl, ?_, ?_⟩
    · show bRel (bSetX B 2 (nI i) y) (upd (upd N (2 + 4 * i + 2) 1) (2 + 4 * i + 3) y)
      rw [setX_n h.1 hi]
      refine bRel_acc h hi (fun q hq => by show upd (upd N _ _) _ _ q = N q; rw [upd_n (by omega), upd_n (by omega)]) (fun a ha k => uXu ha k) ⟨?_, ?_, a3, Or.inr ⟨?_, ?_, ?_⟩⟩
      · show upd (upd N _ _) _ _ _ = _
        rw [upd_n (by omega), upd_n (by omega)]; exact a1
      · show upd (upd N _ _) _ _ _ = _
        rw [upd_n (by omega), upd_n (by omega)]; exact a2
      · rw [uX_s, upd_s]; exact hne
      · show upd (upd N _ _) _ _ _ = _
        rw [upd_n (by omega), upd_s]
      · show upd (upd N _ _) _ _ _ = _
        rw [upd_s, uX_s, upd_s]
    · show hRel (aKeep A 3 (nI i) (bTold B (nI i))) (snN sn) (snS S sn N) (upd (upd N (2 + 4 * i + 2) 1) (2 + 4 * i + 3) y)
      rw [ht]
      refine hRel_push hh (fun B2 G2 hb => ⟨fun q => absurd q (by decide), ?_⟩)
      have e1 : B2.1 = B.1 := bRel_n h hb (by rw [upd_n (by omega), upd_n (by omega)])
      have e : (dTkb G2 B2 3 (nI i) (B.2.2.1 2 i)).2 = bSetX B2 2 (nI i) (B.2.2.1 2 i) := by
        unfold dTkb
        rw [if_neg (by decide), if_neg (by decide), if_neg (by decide), if_pos rfl]
      rw [e, setX_n hb.1 (by omega)]
      obtain ⟨b1, b2, b3, b4⟩ := hb.2.2.2.1 i (by omega)
      refine bRel_acc hb (by omega) (fun q hq => by rw [upd_n (by omega), upd_n (by omega)]) (fun a ha k => uXu ha k) ⟨?_, ?_, b3, ?_⟩
      · rw [upd_n (by omega), upd_n (by omega)] at b1; exact b1
      · rw [upd_n (by omega), upd_n (by omega)] at b2; exact b2
      · rw [uX_s, upd_s]; exact a4
  · rw [if_neg (show ¬ (inA (G, A, B).2.2.1 x = true ∧ -9999999 ≤ y ∧ y ≤ 9999999) from c1), if_neg c1]
    exact ⟨rfl, h, hh⟩
theorem r_turn {A : AP} {B : BP} {sn : Nat} {S N : Nat → Int32} (G : GP) (h : bRel B N) (hh : hRel A sn S N) (x y : Int32) : (dTur (G, A, B) x y).1 = (mTu N S sn B.1 x y).1 ∧ bRel (dTur (G, A, B) x y).2.2.2 (mTu N S sn B.1 x y).2.2.2 ∧ hRel (dTur (G, A, B) x y).2.2.1 (mTu N S sn B.1 x y).2.1 (mTu N S sn B.1 x y).2.2.1 (mTu N S sn B.1 x y).2.2.2 := by
  unfold dTur mTu
  have hcond : ((inA B.1 x && isInB y 0 5) = true) = (inA B.1 x = true ∧ 0 ≤ y ∧ y < 6) := by
    have a : (5 : Int32).toInt = 5 := by decide
    have b : (6 : Int32).toInt = 6 := by decide
    unfold isInB
    simp only [Bool.and_eq_true, decide_eq_true_eq, Int32.lt_iff_toInt_lt, Int32.le_iff_toInt_le, a, b]
    refine propext ⟨fun q => ⟨q.1, q.2.1, by omega⟩, fun q => ⟨q.1, q.2.1, by omega⟩⟩
  simp only [hcond]
  by_cases c1 : inA B.1 x = true ∧ 0 ≤ y ∧ y < 6
  · rw [if_pos (show inA (G, A, B).2.2.1 x = true ∧ 0 ≤ y ∧ y < 6 from c1), if_pos c1]
    obtain ⟨i, hi, rfl⟩ := inA_ex h.1 c1.1
    have h12 := h.1.1
    rw [cl12 hi h12]
    obtain ⟨a1, a2, a3, a4⟩ := h.2.2.2.1 i hi
    have hkd : bKind B (nI i) = B.2.2.1 0 i := by unfold bKind; rw [r_inA h.1 hi, cl12 hi h12]; rfl
    refine ⟨?_, ?_, ?_⟩
    · show bKind B (nI i) = N (2 + 4 * i)
      rw [hkd, a1]
    · show bRel (bSetX B 0 (nI i) y) (upd N (2 + 4 * i + 0) y)
      rw [setX_n h.1 hi]
      refine bRel_acc h hi (fun q hq => by show upd N _ _ q = N q; rw [upd_n (by omega)]) (fun a ha k => uXu ha k) ⟨?_, ?_, ?_, ?_⟩
      · show upd N _ _ _ = _
        rw [show 2 + 4 * i = 2 + 4 * i + 0 from rfl, upd_s, uX_s, upd_s]
      · show upd N _ _ _ = _
        rw [upd_n (by omega)]; exact a2
      · rw [uX_s, upd_s]; exact c1.2
      · rw [upd_n (by omega), upd_n (by omega)]; exact a4
    · show hRel (aKeep A 4 (nI i) (bKind B (nI i))) (snN sn) (snS S sn N) (upd N (2 + 4 * i + 0) y)
      rw [hkd]
      refine hRel_push hh (fun B2 G2 hb => ⟨fun q => absurd q (by decide), ?_⟩)
      have e1 : B2.1 = B.1 := bRel_n h hb (by rw [upd_n (by omega)])
      have e : (dTkb G2 B2 4 (nI i) (B.2.2.1 0 i)).2 = bSetX B2 0 (nI i) (B.2.2.1 0 i) := by
        unfold dTkb
        rw [if_neg (by decide), if_neg (by decide), if_neg (by decide), if_neg (by decide), if_pos rfl]
      rw [e, setX_n hb.1 (by omega)]
      obtain ⟨b1, b2, b3, b4⟩ := hb.2.2.2.1 i (by omega)
      refine bRel_acc hb (by omega) (fun q hq => by rw [upd_n (by omega)]) (fun a ha k => uXu ha k) ⟨?_, ?_, ?_, ?_⟩
      · rw [uX_s, upd_s]; exact a1
      · rw [upd_n (by omega)] at b2; exact b2
      · rw [uX_s, upd_s]; exact a3
      · rw [upd_n (by omega), upd_n (by omega)] at b4; exact b4
  · rw [if_neg (show ¬ (inA (G, A, B).2.2.1 x = true ∧ 0 ≤ y ∧ y < 6) from c1), if_neg c1]
    exact ⟨rfl, h, hh⟩
