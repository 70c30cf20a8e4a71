/-! 48: the pieces: both cut the same ones -/
theorem neg_toI {x : Int32} (h : 0 ≤ x) : (-x).toInt = -x.toInt := by
  have h0 : 0 ≤ x.toInt := by have := Int32.le_iff_toInt_le.mp h; simpa using this
  have h1 := Int32.toInt_lt x
  rw [Int32.toInt_neg]
  exact Int.bmod_eq_of_le (by omega) (by omega)
theorem sub_toI {x m : Int32} (h0 : 0 ≤ m) (h1 : m ≤ x) : (x - m).toInt = x.toInt - m.toInt := by
  have a : 0 ≤ m.toInt := by have := Int32.le_iff_toInt_le.mp h0; simpa using this
  have b := Int32.le_iff_toInt_le.mp h1
  have c := Int32.toInt_lt x
  rw [Int32.toInt_sub]
  exact Int.bmod_eq_of_le (by omega) (by omega)
theorem i0_le {x : Int32} : 0 ≤ x ↔ 0 ≤ x.toInt := by rw [Int32.le_iff_toInt_le]; simp
theorem i0_lt {x : Int32} : 0 < x ↔ 0 < x.toInt := by rw [Int32.lt_iff_toInt_lt]; simp
theorem neg_not {x : Int32} (h : 0 ≤ x) : ¬ 0 < -x := by
  rw [i0_lt, neg_toI h]
  have := i0_le.mp h
  omega
theorem inN_nI2 {n j : Nat} (hn : n ≤ 6) (hj : j < 6) : inN n (nI j) = decide (j < n) := by
  have a : (nI j < nI n) = (j < n) := propext (nI_ltI (by omega) (by omega))
  have b : (nI j < 6) = True := eq_true ((nI_ltI (a := j) (b := 6) (by omega) (by omega)).mpr hj)
  have c : ¬ nI j < 0 := nI_pos (by omega)
  simp [inN, a, b, c]
theorem jAt {J : JP} (h : J.2.1 ≤ 6) {k : Nat} (hk : k < 6) : jGrp J (nI k) = (if k < J.2.1 then J.2.2.2.2.2 2 k else -1) ∧ jAmt J (nI k) = (if k < J.2.1 then J.2.2.2.2.2 1 k else 0) ∧ jAcc J (nI k) = (if k < J.2.1 then J.2.2.2.2.2 0 k else -1) := by
  have hc : (nI k).toNatClampNeg = k := nI_clamp (by omega)
  unfold jGrp jAmt jAcc
  rw [inN_nI2 h hk, hc]
  by_cases c : k < J.2.1
  · simp [c]
  · simp [c]
theorem ff_ext {p q : Nat → Bool} {r : Nat} : ∀ {n a : Nat}, (∀ k, a ≤ k → k < a + n → p k = q k) → (∀ k, a + n ≤ k → k < a + n + r → p k = false) → ff p (n + r) a = ff q n a
  | 0, a, _, h2 => by
    rw [Nat.zero_add]
    show ff p r a = none
    have hn : ∀ (r a : Nat), (∀ k, a ≤ k → k < a + r → p k = false) → ff p r a = none := by
      intro r
      induction r with
      | zero => intro a _; rfl
      | succ r ih =>
        intro a h
        rw [ff, if_neg (by rw [h a (by omega) (by omega)]; decide)]
        exact ih (a + 1) (fun k h1 h2 => h k (by omega) (by omega))
    exact hn r a (fun k h1 h3 => h2 k (by omega) (by omega))
  | n + 1, a, h1, h2 => by
    rw [show n + 1 + r = n + r + 1 by omega, ff, ff, h1 a (by omega) (by omega)]
    split
    · rfl
    · exact ff_ext (fun k a1 a2 => h1 k (by omega) (by omega)) (fun k a1 a2 => h2 k (by omega) (by omega))
/-- what the reference has left and has cut, and what the class has -/
def pcR (am ln f : Nat → Int32) (n : Nat) (S : MS) (l : Nat → Int32) (J : JP) : Prop :=
  J.2.1 = n ∧ (∀ k, k < n → J.2.2.2.2.2 0 k = ln k ∧ J.2.2.2.2.2 2 k = f k) ∧ (∀ k, k < n → 0 ≤ S.1 k ∧ l k = if 0 < am k then S.1 k else -S.1 k) ∧ (∀ k, n ≤ k → k < 6 → l k = 0) ∧ S.2.1 = J.2.2.2.1 ∧ (∀ k, k < S.2.1 → S.2.2.1 k = J.2.2.2.2.2 3 k ∧ S.2.2.2.1 k = J.2.2.2.2.2 4 k ∧ S.2.2.2.2 k = J.2.2.2.2.2 5 k) ∧ S.2.1 + cn S.1 6 ≤ 6
theorem pc_ff {am ln f : Nat → Int32} {n : Nat} {S : MS} {l : Nat → Int32} {J : JP} (h : pcR am ln f n S l J) (hn : n ≤ 6) {g : Nat} (hg : g < 6) :
    ff (pL J l g (-1)) 6 0 = ff (pM f S.1 am g false) n 0 ∧ ff (pL J l g 1) 6 0 = ff (pM f S.1 am g true) n 0 := by
  obtain ⟨h1, h2, h3, h4, h5, h6, h7⟩ := h
  have hout : ∀ sg k, 0 + n ≤ k → k < 0 + n + (6 - n) → pL J l g sg k = false := fun sg k a b => by
    unfold pL
    rw [(jAt (by omega) (k := k) (by omega)).1, if_neg (by omega)]
    have : ¬ (-1 : Int32) = nI g := fun e => by
      have e2 : (-1 : Int32).toInt = (nI g).toInt := by rw [e]
      rw [nI_toInt (by omega)] at e2
      have e3 : (-1 : Int32).toInt = -1 := by decide
      omega
    simp [this]
  refine ⟨?_, ?_⟩
  · have e := ff_ext (p := pL J l g (-1)) (q := pM f S.1 am g false) (r := 6 - n) (n := n) (a := 0) (fun k a b => ?_) (hout (-1))
    · rw [show n + (6 - n) = 6 by omega] at e; exact e
    · obtain ⟨p1, p2⟩ := h3 k (by omega)
      unfold pL pM
      rw [(jAt (by omega) (k := k) (by omega)).1, if_pos (by omega), (h2 k (by omega)).2, p2]
      by_cases c : 0 < am k
      · have e1 : ¬ 0 < S.1 k * (-1) := by rw [show S.1 k * (-1) = -S.1 k by grind]; exact neg_not p1
        simp [c, e1]
      · have e1 : -S.1 k * (-1) = S.1 k := by grind
        simp [c, e1]
  · have e := ff_ext (p := pL J l g 1) (q := pM f S.1 am g true) (r := 6 - n) (n := n) (a := 0) (fun k a b => ?_) (hout 1)
    · rw [show n + (6 - n) = 6 by omega] at e; exact e
    · obtain ⟨p1, p2⟩ := h3 k (by omega)
      unfold pL pM
      rw [(jAt (by omega) (k := k) (by omega)).1, if_pos (by omega), (h2 k (by omega)).2, p2]
      by_cases c : 0 < am k
      · simp [c, Int32.mul_one]
      · have e1 : ¬ 0 < -S.1 k := neg_not p1
        simp [c, e1, Int32.mul_one]
theorem mnl_le {x y : Int32} : mnl x y ≤ x ∧ mnl x y ≤ y := by
  unfold mnl
  by_cases h : x < y
  · rw [if_pos h]; exact ⟨Int32.le_refl _, Int32.le_of_lt h⟩
  · rw [if_neg h]; exact ⟨Int32.not_lt.mp h, Int32.le_refl _⟩
theorem mnl_min (x y : Int32) : imin x y = mnl x y := by
  unfold imin mnl
  by_cases h : y < x
  · rw [if_pos h, if_neg (fun q => Int32.lt_irrefl (Int32.lt_trans q h))]
  · rw [if_neg h]
    by_cases h2 : x < y
    · rw [if_pos h2]
    · rw [if_neg h2]
      exact Int32.le_antisymm (Int32.not_lt.mp h) (Int32.not_lt.mp h2)
theorem pc_step {am ln f : Nat → Int32} {n : Nat} {S : MS} {l : Nat → Int32} {J : JP} (h : pcR am ln f n S l J) (hn : n ≤ 6) {g c d : Nat} (hc : ff (pM f S.1 am g false) n 0 = some c) (hd : ff (pM f S.1 am g true) n 0 = some d) : pcR am ln f n (gmS ln c d S) (cgS g l J c d).1 (cgS g l J c d).2 := by
  obtain ⟨h1, h2, h3, h4, h5, h6, h7⟩ := h
  have hc1 := ff_lt hc
  have hd1 := ff_lt hd
  obtain ⟨e1, e2, e3⟩ := pM_ne hc1.2.2 hd1.2.2
  have hcn : cn (gmS ln c d S).1 6 + 1 ≤ cn S.1 6 := mnl_cn e1 e2 e3 (n := 6) (by omega) (by omega)
  have pc := hc1.2.2
  have pd := hd1.2.2
  simp only [pM, Bool.and_eq_true, decide_eq_true_eq, beq_iff_eq, decide_eq_false_iff_not] at pc pd
  obtain ⟨c1, c2⟩ := h3 c (by omega)
  obtain ⟨d1, d2⟩ := h3 d (by omega)
  rw [if_neg pc.2] at c2
  rw [if_pos pd.2] at d2
  have em : imin (-l c) (l d) = mnl (S.1 c) (S.1 d) := by
    rw [c2, d2, show -(-S.1 c) = S.1 c by grind]
    exact mnl_min _ _
  have m0 : 0 ≤ mnl (S.1 c) (S.1 d) := by unfold mnl; split <;> assumption
  obtain ⟨m1, m2⟩ := @mnl_le (S.1 c) (S.1 d)
  have lt6 : J.2.2.2.1 < 6 := by omega
  have hj : (cgS g l J c d).2 = (J.1, J.2.1, J.2.2.1, J.2.2.2.1 + 1, J.2.2.2.2.1, uX (uX (uX J.2.2.2.2.2 3 (upd (J.2.2.2.2.2 3) J.2.2.2.1 (ln c))) 4 (upd (J.2.2.2.2.2 4) J.2.2.2.1 (ln d))) 5 (upd (J.2.2.2.2.2 5) J.2.2.2.1 (mnl (S.1 c) (S.1 d)))) := by
    show jPiece J (jAcc J (nI c)) (jAcc J (nI d)) (imin (-l c) (l d)) = _
    rw [em, (jAt (by omega) (k := c) (by omega)).2.2, if_pos (by omega), (h2 c (by omega)).1, (jAt (by omega) (k := d) (by omega)).2.2, if_pos (by omega), (h2 d (by omega)).1, jPiece, if_pos lt6]
  have hl : (cgS g l J c d).1 = upd (upd l c (l c + mnl (S.1 c) (S.1 d))) d (upd l c (l c + mnl (S.1 c) (S.1 d)) d - mnl (S.1 c) (S.1 d)) := by
    show upd (upd l c (l c + imin (-l c) (l d))) d (upd l c (l c + imin (-l c) (l d)) d - imin (-l c) (l d)) = _
    rw [em]
  rw [hj, hl]
  refine ⟨h1, fun k hk => ?_, fun k hk => ?_, fun k a b => ?_, ?_, fun k hk => ?_, ?_⟩
  · exact h2 k hk
  · show 0 ≤ upd (upd S.1 c (S.1 c - mnl (S.1 c) (S.1 d))) d (upd S.1 c (S.1 c - mnl (S.1 c) (S.1 d)) d - mnl (S.1 c) (S.1 d)) k ∧ _ = if 0 < am k then upd (upd S.1 c (S.1 c - mnl (S.1 c) (S.1 d))) d (upd S.1 c (S.1 c - mnl (S.1 c) (S.1 d)) d - mnl (S.1 c) (S.1 d)) k else -(upd (upd S.1 c (S.1 c - mnl (S.1 c) (S.1 d))) d (upd S.1 c (S.1 c - mnl (S.1 c) (S.1 d)) d - mnl (S.1 c) (S.1 d)) k)
    by_cases kd : k = d
    · subst kd
      rw [upd_s, upd_s, upd_n (Ne.symm e1), upd_n (Ne.symm e1), if_pos pd.2, d2]
      refine ⟨?_, rfl⟩
      rw [i0_le, sub_toI m0 m2]
      have := Int32.le_iff_toInt_le.mp m2
      omega
    · rw [upd_n kd, upd_n kd]
      by_cases kc : k = c
      · subst kc
        rw [upd_s, upd_s, if_neg pc.2, c2]
        refine ⟨?_, by grind⟩
        rw [i0_le, sub_toI m0 m1]
        have := Int32.le_iff_toInt_le.mp m1
        omega
      · rw [upd_n kc, upd_n kc]
        exact h3 k hk
  · rw [upd_n (by omega), upd_n (by omega)]
    exact h4 k a b
  · show S.2.1 + 1 = J.2.2.2.1 + 1
    rw [h5]
  · have hk' : k < S.2.1 + 1 := hk
    show upd S.2.2.1 S.2.1 (ln c) k = upd (J.2.2.2.2.2 3) J.2.2.2.1 (ln c) k ∧ upd S.2.2.2.1 S.2.1 (ln d) k = upd (J.2.2.2.2.2 4) J.2.2.2.1 (ln d) k ∧ upd S.2.2.2.2 S.2.1 (mnl (S.1 c) (S.1 d)) k = upd (J.2.2.2.2.2 5) J.2.2.2.1 (mnl (S.1 c) (S.1 d)) k
    rw [← h5]
    by_cases e : k = S.2.1
    · subst e; simp [upd_s]
    · rw [upd_n e, upd_n e, upd_n e, upd_n e, upd_n e, upd_n e]
      exact h6 k (by omega)
  · show S.2.1 + 1 + cn (gmS ln c d S).1 6 ≤ 6
    omega
theorem pc_cg {am ln f : Nat → Int32} {n g : Nat} (hn : n ≤ 6) (hg : g < 6) : ∀ (m : Nat) (S : MS) (l : Nat → Int32) (J : JP), pcR am ln f n S l J → pcR am ln f n (gm f am ln n g m S) (cg g m l J).1 (cg g m l J).2
  | 0, S, l, J, h => h
  | m + 1, S, l, J, h => by
    obtain ⟨f1, f2⟩ := pc_ff h hn hg
    unfold gm cg
    rw [f1, f2]
    cases hc : ff (pM f S.1 am g false) n 0 with
    | none => exact h
    | some c =>
      cases hd : ff (pM f S.1 am g true) n 0 with
      | none => exact h
      | some d => exact pc_cg hn hg m _ _ _ (pc_step h hn hc hd)
theorem gm_fuel {am ln f : Nat → Int32} {n g : Nat} (hn : n ≤ 6) : ∀ (m : Nat) (S : MS), cn S.1 6 ≤ m → gm f am ln n g (m + 1) S = gm f am ln n g m S
  | 0, S, h => by
    unfold gm
    cases hc : ff (pM f S.1 am g false) n 0 with
    | none => rfl
    | some c =>
      exfalso
      have hc1 := ff_lt hc
      have pc := hc1.2.2
      simp only [pM, Bool.and_eq_true, decide_eq_true_eq] at pc
      have := cn_1 (l := S.1) (k := c) (fun e => by rw [e] at pc; exact absurd pc.1.2 (by decide)) (n := 6) (by omega)
      omega
  | m + 1, S, h => by
    rw [gm, gm]
    cases hc : ff (pM f S.1 am g false) n 0 with
    | none => rfl
    | some c =>
      cases hd : ff (pM f S.1 am g true) n 0 with
      | none => rfl
      | some d =>
        have hc1 := ff_lt hc
        have hd1 := ff_lt hd
        obtain ⟨e1, e2, e3⟩ := pM_ne hc1.2.2 hd1.2.2
        have hcn : cn (gmS ln c d S).1 6 + 1 ≤ cn S.1 6 := mnl_cn e1 e2 e3 (n := 6) (by omega) (by omega)
        exact gm_fuel hn m _ (by omega)
theorem pc_cgs {am ln f : Nat → Int32} {n : Nat} (hn : n ≤ 6) (S0 : MS) : ∀ (m g : Nat) (l : Nat → Int32) (J : JP), g + m ≤ 6 → pcR am ln f n (gms f am ln n g S0) l J → pcR am ln f n (gms f am ln n (g + m) S0) (cgs m g l J).1 (cgs m g l J).2
  | 0, g, l, J, _, h => h
  | m + 1, g, l, J, hg, h => by
    rw [cgs]
    have h1 := pc_cg hn (by omega : g < 6) 6 _ _ _ h
    have hfu := gm_fuel (am := am) (ln := ln) (f := f) (g := g) hn 6 (gms f am ln n g S0) (by have := h.2.2.2.2.2.2; omega)
    rw [← hfu] at h1
    have h2 := pc_cgs hn S0 m (g + 1) (cg g 6 l J).1 (cg g 6 l J).2 (by omega) h1
    rw [show g + 1 + m = g + (m + 1) by omega] at h2
    exact h2
theorem laF_at {n : Nat} {am l : Nat → Int32} : ∀ {k i : Nat}, i < k → laF n am l k i = if n ≤ i then 0 else if am i < 0 then -am i else am i
  | k + 1, i, h => by
    rw [laF]
    by_cases e : i = k
    · subst e; rw [upd_s]
    · rw [upd_n e]; exact laF_at (by omega)
theorem lf_at {J : JP} {l : Nat → Int32} {k : Nat} (hk : k < 6) : lf J l k = jAmt J (nI k) := by
  rcases (show k = 0 ∨ k = 1 ∨ k = 2 ∨ k = 3 ∨ k = 4 ∨ k = 5 by omega) with rfl | rfl | rfl | rfl | rfl | rfl <;> simp [lf, upd] <;> rfl
theorem pc_ini {am ln f l0 l a b c : Nat → Int32} {n : Nat} {J : JP} (hn : J.2.1 = n) (h6 : n ≤ 6) (h0 : ∀ k, k < n → J.2.2.2.2.2 0 k = ln k ∧ J.2.2.2.2.2 2 k = f k ∧ J.2.2.2.2.2 1 k = am k) (hb : ∀ k, k < n → -99999 ≤ am k ∧ am k ≤ 99999) : pcR am ln f n (laF n am l0 6, 0, a, b, c) (lf J l) (jNoP J) := by
  refine ⟨hn, fun k hk => ⟨(h0 k hk).1, (h0 k hk).2.1⟩, fun k hk => ?_, fun k x y => ?_, rfl, fun k hk => absurd hk (Nat.not_lt_zero k), ?_⟩
  · show 0 ≤ laF n am l0 6 k ∧ lf J l k = if 0 < am k then laF n am l0 6 k else -laF n am l0 6 k
    have ea : lf J l k = am k := by rw [lf_at (by omega), (jAt (by omega) (k := k) (by omega)).2.1, if_pos (show k < J.2.1 by omega), (h0 k hk).2.2]
    have el : laF n am l0 6 k = if am k < 0 then -am k else am k := by rw [laF_at (by omega), if_neg (by omega)]
    rw [ea, el]
    obtain ⟨b1, b2⟩ := hb k hk
    have t1 := Int32.le_iff_toInt_le.mp b1
    have t2 := Int32.le_iff_toInt_le.mp b2
    have e1 : (-99999 : Int32).toInt = -99999 := by decide
    have e2 : (99999 : Int32).toInt = 99999 := by decide
    rw [e1] at t1
    rw [e2] at t2
    by_cases hneg : am k < 0
    · have t3 := Int32.lt_iff_toInt_lt.mp hneg
      have e3 : (0 : Int32).toInt = 0 := rfl
      rw [if_pos hneg, if_neg (fun q => Int32.lt_irrefl (Int32.lt_trans q hneg))]
      refine ⟨?_, by grind⟩
      rw [i0_le, Int32.toInt_neg, Int.bmod_eq_of_le (by omega) (by omega)]
      omega
    · rw [if_neg hneg]
      refine ⟨Int32.not_lt.mp hneg, ?_⟩
      by_cases hp : 0 < am k
      · rw [if_pos hp]
      · rw [if_neg hp]
        have : am k = 0 := Int32.le_antisymm (Int32.not_lt.mp hp) (Int32.not_lt.mp hneg)
        rw [this]
        decide
  · rw [lf_at y, (jAt (by omega) (k := k) y).2.1, if_neg (by omega)]
  · show 0 + cn (laF n am l0 6) 6 ≤ 6
    have := cn_max (laF n am l0 6) 6
    omega
theorem tr_cg {am am' : Nat → Int32} : ∀ (m k many : Nat) (S : TS), (∀ i, k ≤ i → i < k + m → am i = am' i) → tr am m k many S = tr am' m k many S
  | 0, k, many, S, _ => rfl
  | m + 1, k, many, S, h => by
    rw [tr, tr]
    have hst : (fun g S => trO am k g (tr am m (k + 1) (if g = many then many + 1 else many) (trI am k g S))) = (fun g S => trO am' k g (tr am' m (k + 1) (if g = many then many + 1 else many) (trI am' k g S))) := by
      funext g S
      rw [tr_cg m (k + 1) _ _ (fun i a b => h i (by omega) (by omega))]
      unfold trO trI
      rw [h k (by omega) (by omega)]
    rw [hst]
/-- the journal's groups and pieces are those that the reference finds -/
def jSet (J : JP) : Prop := ∀ (X : Nat → Nat → Int32) (j : Nat), (∀ k, k < J.2.1 → mAm (X 11) j k = J.2.2.2.2.2 1 k ∧ X 11 (50 + 15 * j + (3 + 2 * k)) = J.2.2.2.2.2 0 k) →
  (lpS X J.2.1 j).2.1 = J.2.2.2.1 ∧ (lpT X J.2.1 j).2.2.1 = J.2.2.1 ∧ (∀ k, k < J.2.2.2.1 → (lpS X J.2.1 j).2.2.1 k = J.2.2.2.2.2 3 k ∧ (lpS X J.2.1 j).2.2.2.1 k = J.2.2.2.2.2 4 k ∧ (lpS X J.2.1 j).2.2.2.2 k = J.2.2.2.2.2 5 k) ∧ ∀ k, k < J.2.1 → (lpT X J.2.1 j).2.2.2 k = J.2.2.2.2.2 2 k
/-- its pieces name accounts of its lines -/
def jPcs (J : JP) : Prop := ∀ k, k < J.2.2.2.1 → ∃ c d, c < J.2.1 ∧ d < J.2.1 ∧ J.2.2.2.2.2 3 k = J.2.2.2.2.2 0 c ∧ J.2.2.2.2.2 4 k = J.2.2.2.2.2 0 d
/-- what cutting leaves of a journal -/
def jKp (J J' : JP) : Prop := J'.1 = J.1 ∧ J'.2.1 = J.2.1 ∧ J'.2.2.1 = J.2.2.1 ∧ J'.2.2.2.2.1 = J.2.2.2.2.1 ∧ J'.2.2.2.2.2 0 = J.2.2.2.2.2 0 ∧ J'.2.2.2.2.2 1 = J.2.2.2.2.2 1 ∧ J'.2.2.2.2.2 2 = J.2.2.2.2.2 2
theorem jKp.rf (J : JP) : jKp J J := ⟨rfl, rfl, rfl, rfl, rfl, rfl, rfl⟩
theorem jKp.tr {J K L : JP} (h : jKp J K) (g : jKp K L) : jKp J L := ⟨g.1.trans h.1, g.2.1.trans h.2.1, g.2.2.1.trans h.2.2.1, g.2.2.2.1.trans h.2.2.2.1, g.2.2.2.2.1.trans h.2.2.2.2.1, g.2.2.2.2.2.1.trans h.2.2.2.2.2.1, g.2.2.2.2.2.2.trans h.2.2.2.2.2.2⟩
theorem jKp_piece (J : JP) (x y z : Int32) : jKp J (jPiece J x y z) := by
  unfold jPiece
  split
  · exact ⟨rfl, rfl, rfl, rfl, rfl, rfl, rfl⟩
  · exact jKp.rf J
theorem jKp_cg {g : Nat} : ∀ (m : Nat) (l : Nat → Int32) (J : JP), jKp J (cg g m l J).2
  | 0, l, J => jKp.rf J
  | m + 1, l, J => by
    unfold cg
    split
    · exact (jKp_piece J _ _ _).tr (jKp_cg m _ _)
    · exact jKp.rf J
theorem jKp_cgs : ∀ (m g : Nat) (l : Nat → Int32) (J : JP), jKp J (cgs m g l J).2
  | 0, g, l, J => jKp.rf J
  | m + 1, g, l, J => by
    rw [cgs]
    exact (jKp_cg 6 l J).tr (jKp_cgs m _ _ _)
def gPS (ln : Nat → Int32) (n : Nat) (S : MS) : Prop := ∀ k, k < S.2.1 → ∃ c d, c < n ∧ d < n ∧ S.2.2.1 k = ln c ∧ S.2.2.2.1 k = ln d
theorem gPS_gm {am ln f : Nat → Int32} {n g : Nat} : ∀ (m : Nat) (S : MS), gPS ln n S → gPS ln n (gm f am ln n g m S)
  | 0, S, h => h
  | m + 1, S, h => by
    unfold gm
    split
    · next c d hc hd =>
      refine gPS_gm m _ (fun k hk => ?_)
      have hc1 := ff_lt hc
      have hd1 := ff_lt hd
      have hk' : k < S.2.1 + 1 := hk
      show ∃ c' d', c' < n ∧ d' < n ∧ upd S.2.2.1 S.2.1 (ln c) k = ln c' ∧ upd S.2.2.2.1 S.2.1 (ln d) k = ln d'
      by_cases e : k = S.2.1
      · subst e
        exact ⟨c, d, by omega, by omega, by rw [upd_s], by rw [upd_s]⟩
      · rw [upd_n e, upd_n e]
        exact h k (by omega)
    · exact h
theorem gPS_gms {am ln f : Nat → Int32} {n : Nat} : ∀ (g : Nat) (S : MS), gPS ln n S → gPS ln n (gms f am ln n g S)
  | 0, S, h => h
  | g + 1, S, h => gPS_gm 7 _ (gPS_gms g S h)
/-- lines that may be parted: two to six, no amount too large, none left over -/
def jFit (J : JP) : Prop := 2 ≤ J.2.1 ∧ J.2.1 ≤ 6 ∧ (∀ k, k < J.2.1 → -99999 ≤ J.2.2.2.2.2 1 k ∧ J.2.2.2.2.2 1 k ≤ 99999) ∧ isum (J.2.2.2.2.2 1) J.2.1 = 0
/-- the same lines, period and mark -/
def jSame (J J' : JP) : Prop := J'.1 = J.1 ∧ J'.2.1 = J.2.1 ∧ J'.2.2.2.2.1 = J.2.2.2.2.1 ∧ J'.2.2.2.2.2 0 = J.2.2.2.2.2 0 ∧ J'.2.2.2.2.2 1 = J.2.2.2.2.2 1
theorem stl_same (J : JP) (G : GP) : jSame J (stl J G).2 := by
  have h := jKp_cgs (jD J (prtR J G.1 G.2.1).2.2.1 (prtR J G.1 G.2.1).2.2.2).2.2.1 0 (lf (jD J (prtR J G.1 G.2.1).2.2.1 (prtR J G.1 G.2.1).2.2.2) G.2.2) (jNoP (jD J (prtR J G.1 G.2.1).2.2.1 (prtR J G.1 G.2.1).2.2.2))
  exact ⟨h.1, h.2.1, h.2.2.2.1, h.2.2.2.2.1, h.2.2.2.2.2.1⟩
theorem stl_set {J : JP} (hF : jFit J) (G : GP) : jSet (stl J G).2 ∧ jPcs (stl J G).2 := by
  obtain ⟨h2, h6, hb, hs⟩ := hF
  have hsm := stl_same J G
  have hK := jKp_cgs (jD J (prtR J G.1 G.2.1).2.2.1 (prtR J G.1 G.2.1).2.2.2).2.2.1 0 (lf (jD J (prtR J G.1 G.2.1).2.2.1 (prtR J G.1 G.2.1).2.2.2) G.2.2) (jNoP (jD J (prtR J G.1 G.2.1).2.2.1 (prtR J G.1 G.2.1).2.2.2))
  have main : ∀ (X : Nat → Nat → Int32) (j : Nat), (∀ k, k < J.2.1 → mAm (X 11) j k = J.2.2.2.2.2 1 k ∧ X 11 (50 + 15 * j + (3 + 2 * k)) = J.2.2.2.2.2 0 k) → pcR (mAm (X 11) j) (fun k => X 11 (50 + 15 * j + (3 + 2 * k))) (lpT X J.2.1 j).2.2.2 J.2.1 (lpS X J.2.1 j) (cutR (jD J (prtR J G.1 G.2.1).2.2.1 (prtR J G.1 G.2.1).2.2.2) G.2.2).1 (stl J G).2 ∧ (lpT X J.2.1 j).2.2.1 = (prtR J G.1 G.2.1).2.2.1 ∧ (∀ k, k < J.2.1 → (lpT X J.2.1 j).2.2.2 k = (prtR J G.1 G.2.1).2.2.2 k) := by
    intro X j hX
    have hg := groups_eq (am := J.2.2.2.2.2 1) (s := X 18) (s' := G.2.1) (r := X 16) (f := X 17) (f' := J.2.2.2.2.2 2) (v := G.1) h2 h6 hs
    have htr : lpT X J.2.1 j = tr (J.2.2.2.2.2 1) J.2.1 0 0 (X 16, zsF (X 18) 6, 0, X 17) := tr_cg J.2.1 0 0 _ (fun i _ hi => (hX i (by omega)).1)
    rw [← htr] at hg
    obtain ⟨g1, g2, g3⟩ := hg
    have hle : (prtR J G.1 G.2.1).2.2.1 ≤ 6 := prt_le (by omega) h6 203 true _ _ 0 _ (okV_0 _) (by omega)
    refine ⟨?_, g1, g2⟩
    have hini := pc_ini (am := mAm (X 11) j) (ln := fun k => X 11 (50 + 15 * j + (3 + 2 * k))) (f := (lpT X J.2.1 j).2.2.2) (l0 := X 23) (l := G.2.2) (a := X 20) (b := X 21) (c := X 22) (n := J.2.1) (J := jD J (prtR J G.1 G.2.1).2.2.1 (prtR J G.1 G.2.1).2.2.2) rfl h6 (fun k hk => ⟨((hX k hk).2).symm, by rw [g2 k hk]; rfl, ((hX k hk).1).symm⟩) (fun k hk => by rw [(hX k hk).1]; exact hb k hk)
    have hcs := pc_cgs h6 (laF J.2.1 (mAm (X 11) j) (X 23) 6, 0, X 20, X 21, X 22) (prtR J G.1 G.2.1).2.2.1 0 _ _ (by omega) hini
    rw [Nat.zero_add] at hcs
    unfold lpS
    rw [g1]
    exact hcs
  refine ⟨?_, ?_⟩
  · intro X j hX
    rw [hsm.2.1] at hX ⊢
    rw [hsm.2.2.2.1, hsm.2.2.2.2] at hX
    obtain ⟨m1, m2, m3⟩ := main X j hX
    refine ⟨m1.2.2.2.2.1, ?_, fun k hk => ?_, fun k hk => ?_⟩
    · rw [m2]; exact hK.2.2.1.symm
    · exact m1.2.2.2.2.2.1 k (by rw [m1.2.2.2.2.1]; exact hk)
    · rw [m3 k hk]
      exact (congrFun hK.2.2.2.2.2.2 k).symm
  · -- a row of numbers that holds these lines
    intro k hk
    let N : Nat → Int32 := fun i => if i % 2 = 1 then J.2.2.2.2.2 0 ((i - 53) / 2) else J.2.2.2.2.2 1 ((i - 54) / 2)
    have hN : ∀ k, k < J.2.1 → mAm ((fun _ => N) 11) 0 k = J.2.2.2.2.2 1 k ∧ ((fun _ => N) 11) (50 + 15 * 0 + (3 + 2 * k)) = J.2.2.2.2.2 0 k := by
      intro k hk
      refine ⟨?_, ?_⟩
      · show N (50 + 15 * 0 + (3 + 2 * k + 1)) = _
        simp only [N]
        rw [if_neg (by omega), show (50 + 15 * 0 + (3 + 2 * k + 1) - 54) / 2 = k by omega]
      · show N (50 + 15 * 0 + (3 + 2 * k)) = _
        simp only [N]
        rw [if_pos (by omega), show (50 + 15 * 0 + (3 + 2 * k) - 53) / 2 = k by omega]
    obtain ⟨m1, -, -⟩ := main (fun _ => N) 0 hN
    have hps : gPS (fun k => (fun _ => N) 11 (50 + 15 * 0 + (3 + 2 * k))) J.2.1 (lpS (fun _ => N) J.2.1 0) := gPS_gms _ _ (fun k hk => absurd hk (Nat.not_lt_zero k))
    have hk' : k < (lpS (fun _ => N) J.2.1 0).2.1 := by rw [m1.2.2.2.2.1]; exact hk
    obtain ⟨c, d, hc, hd, e1, e2⟩ := hps k hk'
    obtain ⟨r1, r2, -⟩ := m1.2.2.2.2.2.1 k hk'
    rw [hsm.2.1]
    refine ⟨c, d, hc, hd, ?_, ?_⟩
    · rw [← r1, e1, (m1.2.1 c hc).1]
    · rw [← r2, e2, (m1.2.1 d hd).1]
