/-! 53: acts and what is kept of them: the same book after each, and after each is taken back -/
theorem aRel_cg {X : Nat → Nat → Int32} {N N' : Nat → Int32} {i : Nat} (h : ∀ k, k < 4 → N' (2 + 4 * i + k) = N (2 + 4 * i + k)) (r : aRel X N i) : aRel X N' i := by
  obtain ⟨a, b, c, d⟩ := r
  unfold aRel
  have h0 : N' (2 + 4 * i) = N (2 + 4 * i) := h 0 (by omega)
  rw [h0, h 1 (by omega), h 2 (by omega), h 3 (by omega)]
  exact ⟨a, b, c, d⟩
theorem aRel_X {X X' : Nat → Nat → Int32} {N : Nat → Int32} {i : Nat} (h : ∀ k, k < 3 → X' k i = X k i) (r : aRel X N i) : aRel X' N i := by
  obtain ⟨a, b, c, d⟩ := r
  unfold aRel
  rw [h 0 (by omega), h 1 (by omega), h 2 (by omega)]
  exact ⟨a, b, c, d⟩
theorem jRel_cg {na j : Nat} {J : JP} {N N' : Nat → Int32} (h : ∀ k, k < 15 → N' (50 + 15 * j + k) = N (50 + 15 * j + k)) (r : jRel na J N j) : jRel na J N' j := by
  obtain ⟨j1, j2, j3, j4, j5, j6, j7, j8⟩ := r
  have h6 := j6.2.1
  refine ⟨by rw [h 0 (by omega)]; exact j1, j2, by rw [h 1 (by omega)]; exact j3, by rw [h 2 (by omega)]; exact j4, fun k hk => ?_, j6, j7, j8⟩
  obtain ⟨a, b, c⟩ := j5 k hk
  refine ⟨by rw [h (3 + 2 * k) (by omega)]; exact a, ?_, c⟩
  unfold mAm at b ⊢
  rw [h (3 + 2 * k + 1) (by omega)]
  exact b
theorem bRel_cg {B : BP} {N N' : Nat → Int32} (h : ∀ q, q < 500 → N' q = N q) (r : bRel B N) : bRel B N' := by
  obtain ⟨hB, h0, h1, hA, hJ⟩ := r
  have a12 := hB.1
  have a30 := hB.2.1
  exact ⟨hB, by rw [h 0 (by omega)]; exact h0, by rw [h 1 (by omega)]; exact h1, fun i hi => aRel_cg (fun k hk => h _ (by omega)) (hA i hi), fun j hj => jRel_cg (fun k hk => h _ (by omega)) (hJ j hj)⟩
theorem bRel_setJ {B : BP} {N N' : Nat → Int32} (r : bRel B N) {j : Nat} (hj : j < B.2.1) {J' : JP} (ho : ∀ q, q < 50 + 15 * j ∨ 50 + 15 * j + 15 ≤ q → N' q = N q) (hJ' : jRel B.1 J' N' j) (ok : okJ J') : bRel (setJ B j J') N' := by
  obtain ⟨hB, h0, h1, hA, hJ⟩ := r
  have a12 := hB.1
  refine ⟨okB_setJ hB ok, by rw [ho 0 (by omega)]; exact h0, by rw [ho 1 (by omega)]; exact h1, fun i (hi : i < B.1) => aRel_cg (fun k hk => ho _ (by omega)) (hA i hi), fun q hq => ?_⟩
  show jRel B.1 (uX B.2.2.2 j J' q) N' q
  by_cases e : q = j
  · subst e; rw [uX_s]; exact hJ'
  · rw [uX_n e]
    exact jRel_cg (fun k hk => ho _ (by omega)) (hJ q hq)
theorem bRel_acc {B : BP} {N N' : Nat → Int32} (r : bRel B N) {i : Nat} (hi : i < B.1) {X' : Nat → Nat → Int32} (ho : ∀ q, q < 2 + 4 * i ∨ 2 + 4 * i + 4 ≤ q → N' q = N q) (hX : ∀ a, a ≠ i → ∀ k, X' k a = B.2.2.1 k a) (ha : aRel X' N' i) : bRel (B.1, B.2.1, X', B.2.2.2) N' := by
  obtain ⟨hB, h0, h1, hA, hJ⟩ := r
  have a12 := hB.1
  refine ⟨hB, by rw [ho 0 (by omega)]; exact h0, by rw [ho 1 (by omega)]; exact h1, fun a hl => ?_, fun j hj => jRel_cg (fun k hk => ho _ (by omega)) (hJ j hj)⟩
  by_cases e : a = i
  · subst e; exact ha
  · exact aRel_X (fun k _ => hX a e k) (aRel_cg (fun k hk => ho _ (by omega)) (hA a hl))
/-! what is kept of acts -/
def hRow (S N : Nat → Int32) (sn k : Nat) : Nat → Int32 := if k = sn then N else fun i => S (500 * k + i)
def hPre (B : BP) (so tg : Int32) : Prop := so = 1 → inR B.2.1 tg = true → 4 ≤ (B.2.2.2 tg.toNatClampNeg).2.1
def hOne (so tg bf : Int32) (N1 N : Nat → Int32) : Prop := ∀ (B : BP) (G : GP), bRel B N1 → hPre B so tg ∧ bRel (dTkb G B so tg bf).2 N
def hRel (A : AP) (sn : Nat) (S N : Nat → Int32) : Prop := A.1 = sn ∧ sn ≤ 10 ∧ ∀ n, n < sn → hOne (A.2 0 n) (A.2 1 n) (A.2 2 n) (hRow S N sn (n + 1)) (hRow S N sn n)
theorem hOne_cg {so tg bf : Int32} {N1 N N1' N' : Nat → Int32} (h1 : ∀ q, q < 500 → N1' q = N1 q) (h : ∀ q, q < 500 → N' q = N q) (r : hOne so tg bf N1 N) : hOne so tg bf N1' N' := fun B G hb => by
  obtain ⟨a, b⟩ := r B G (bRel_cg (fun q hq => (h1 q hq).symm) hb)
  exact ⟨a, bRel_cg h b⟩
theorem cps_at {f g : Nat → Int32} {b k j : Nat} : cps f b g k j = if b ≤ j ∧ j < b + k then g (j - b) else f j := rfl
theorem hRel_push {A : AP} {sn : Nat} {S N N1 : Nat → Int32} (r : hRel A sn S N) {so tg bf : Int32} (h : hOne so tg bf N1 N) : hRel (aKeep A so tg bf) (snN sn) (snS S sn N) N1 := by
  obtain ⟨r1, r2, r3⟩ := r
  unfold aKeep snN snS
  by_cases c : sn = 10
  · rw [if_neg (by omega), if_pos c, if_pos c]
    subst c
    refine ⟨rfl, Nat.le_refl _, fun n hn => ?_⟩
    have hact : ∀ k v, (aPush (aOld A) so tg bf).2 k n = v → True := fun _ _ _ => trivial
    by_cases e : n = 9
    · subst e
      have a0 : (aPush (aOld A) so tg bf).2 0 9 = so := rfl
      have a1 : (aPush (aOld A) so tg bf).2 1 9 = tg := rfl
      have a2 : (aPush (aOld A) so tg bf).2 2 9 = bf := rfl
      rw [a0, a1, a2]
      refine hOne_cg (fun q hq => ?_) (fun q hq => ?_) h
      · rfl
      · show cps (sh5 S 4500) 4500 N 500 (500 * 9 + q) = N q
        rw [cps_at, if_pos ⟨by omega, by omega⟩, show 500 * 9 + q - 4500 = q by omega]
    · have a0 : ∀ k, k < 3 → (aPush (aOld A) so tg bf).2 k n = A.2 k (n + 1) := fun k hk => by
        rcases (show k = 0 ∨ k = 1 ∨ k = 2 by omega) with rfl | rfl | rfl
        · show upd (shf (A.2 0) 9) 9 so n = A.2 0 (n + 1)
          rw [upd_n (by omega)]
          unfold shf
          rw [if_pos (by omega)]
        · show upd (shf (A.2 1) 9) 9 tg n = A.2 1 (n + 1)
          rw [upd_n (by omega)]
          unfold shf
          rw [if_pos (by omega)]
        · show upd (shf (A.2 2) 9) 9 bf n = A.2 2 (n + 1)
          rw [upd_n (by omega)]
          unfold shf
          rw [if_pos (by omega)]
      rw [a0 0 (by omega), a0 1 (by omega), a0 2 (by omega)]
      refine hOne_cg (fun q hq => ?_) (fun q hq => ?_) (r3 (n + 1) (by omega))
      · unfold hRow
        rw [if_neg (by omega)]
        show cps (sh5 S 4500) 4500 N 500 (500 * (n + 1) + q) = _
        rw [cps_at]
        by_cases e2 : n + 1 = 9
        · rw [if_pos ⟨by omega, by omega⟩, if_pos (by omega), show 500 * (n + 1) + q - 4500 = q by omega]
        · rw [if_neg (by omega), if_neg (by omega)]
          unfold sh5
          rw [if_pos (by omega), show 500 * (n + 1) + q + 500 = 500 * (n + 1 + 1) + q by omega]
      · unfold hRow
        rw [if_neg (by omega), if_neg (by omega)]
        show cps (sh5 S 4500) 4500 N 500 (500 * n + q) = _
        rw [cps_at, if_neg (by omega)]
        unfold sh5
        rw [if_pos (by omega), show 500 * n + q + 500 = 500 * (n + 1) + q by omega]
  · rw [if_pos (by omega), if_neg c, if_neg c]
    refine ⟨by show A.1 + 1 = sn + 1; omega, by omega, fun n hn => ?_⟩
    by_cases e : n = sn
    · subst e
      have a0 : (aPush A so tg bf).2 0 n = so := by show upd (A.2 0) A.1 so n = so; rw [r1, upd_s]
      have a1 : (aPush A so tg bf).2 1 n = tg := by show upd (A.2 1) A.1 tg n = tg; rw [r1, upd_s]
      have a2 : (aPush A so tg bf).2 2 n = bf := by show upd (A.2 2) A.1 bf n = bf; rw [r1, upd_s]
      rw [a0, a1, a2]
      refine hOne_cg (fun q hq => ?_) (fun q hq => ?_) h
      · unfold hRow; rw [if_pos rfl]
      · unfold hRow
        rw [if_neg (by omega)]
        show cps S (500 * n) N 500 (500 * n + q) = N q
        rw [cps_at, if_pos ⟨by omega, by omega⟩, show 500 * n + q - 500 * n = q by omega]
    · have a0 : (aPush A so tg bf).2 0 n = A.2 0 n := by show upd (A.2 0) A.1 so n = _; rw [upd_n (by omega)]
      have a1 : (aPush A so tg bf).2 1 n = A.2 1 n := by show upd (A.2 1) A.1 tg n = _; rw [upd_n (by omega)]
      have a2 : (aPush A so tg bf).2 2 n = A.2 2 n := by show upd (A.2 2) A.1 bf n = _; rw [upd_n (by omega)]
      rw [a0, a1, a2]
      refine hOne_cg (fun q hq => ?_) (fun q hq => ?_) (r3 n (by omega))
      · unfold hRow
        rw [if_neg (by omega)]
        show cps S (500 * sn) N 500 (500 * (n + 1) + q) = _
        rw [cps_at]
        by_cases e2 : n + 1 = sn
        · rw [if_pos ⟨by omega, by omega⟩, if_pos e2, show 500 * (n + 1) + q - 500 * sn = q by omega]
        · rw [if_neg (by omega), if_neg e2]
      · unfold hRow
        rw [if_neg (by omega), if_neg (by omega)]
        show cps S (500 * sn) N 500 (500 * n + q) = _
        rw [cps_at, if_neg (by omega)]
theorem hRel_undo {A : AP} {sn : Nat} {S N : Nat → Int32} (r : hRel A sn S N) (h : 0 < sn) : hRel (A.1 - 1, A.2) (sn - 1) S (cps N 0 (fun k => S (500 * (sn - 1) + k)) 500) := by
  obtain ⟨r1, r2, r3⟩ := r
  refine ⟨by show A.1 - 1 = sn - 1; omega, by omega, fun n hn => ?_⟩
  refine hOne_cg (fun q hq => ?_) (fun q hq => ?_) (r3 n (by omega))
  · unfold hRow
    rw [if_neg (show ¬ n + 1 = sn by omega)]
    by_cases e : n + 1 = sn - 1
    · rw [if_pos e, cps_at, if_pos ⟨by omega, by omega⟩, e]
      rfl
    · rw [if_neg e]
  · unfold hRow
    rw [if_neg (by omega), if_neg (by omega)]
/-! the lines of a transfer -/
theorem jTra_at {J : JP} (h : J.2.1 ≤ 4) (x y m : Int32) : (jTra J x y m).1 = J.1 ∧ (jTra J x y m).2.2.2.2.1 = J.2.2.2.2.1 ∧ (∀ k, k < J.2.1 → (jTra J x y m).2.2.2.2.2 0 k = J.2.2.2.2.2 0 k ∧ (jTra J x y m).2.2.2.2.2 1 k = J.2.2.2.2.2 1 k) ∧ (jTra J x y m).2.2.2.2.2 0 J.2.1 = x ∧ (jTra J x y m).2.2.2.2.2 1 J.2.1 = m ∧ (jTra J x y m).2.2.2.2.2 0 (J.2.1 + 1) = y ∧ (jTra J x y m).2.2.2.2.2 1 (J.2.1 + 1) = -m := by
  have e : jTra J x y m = (J.1, J.2.1 + 1 + 1, J.2.2.1, J.2.2.2.1, J.2.2.2.2.1, uX (uX (uX (uX J.2.2.2.2.2 0 (upd (J.2.2.2.2.2 0) J.2.1 x)) 1 (upd (J.2.2.2.2.2 1) J.2.1 m)) 0 (upd (upd (J.2.2.2.2.2 0) J.2.1 x) (J.2.1 + 1) y)) 1 (upd (upd (J.2.2.2.2.2 1) J.2.1 m) (J.2.1 + 1) (-m))) := by
    unfold jTra
    have e1 : jAdd J x m = (J.1, J.2.1 + 1, J.2.2.1, J.2.2.2.1, J.2.2.2.2.1, uX (uX J.2.2.2.2.2 0 (upd (J.2.2.2.2.2 0) J.2.1 x)) 1 (upd (J.2.2.2.2.2 1) J.2.1 m)) := by
      unfold jAdd
      rw [if_pos (by omega)]
    rw [e1]
    unfold jAdd
    rw [if_pos (show J.2.1 + 1 < 6 by omega)]
    rfl
  rw [e]
  refine ⟨rfl, rfl, fun k hk => ⟨?_, ?_⟩, ?_, ?_, ?_, ?_⟩
  · show upd (upd (J.2.2.2.2.2 0) J.2.1 x) (J.2.1 + 1) y k = _
    rw [upd_n (by omega), upd_n (by omega)]
  · show upd (upd (J.2.2.2.2.2 1) J.2.1 m) (J.2.1 + 1) (-m) k = _
    rw [upd_n (by omega), upd_n (by omega)]
  · show upd (upd (J.2.2.2.2.2 0) J.2.1 x) (J.2.1 + 1) y J.2.1 = _
    rw [upd_n (by omega), upd_s]
  · show upd (upd (J.2.2.2.2.2 1) J.2.1 m) (J.2.1 + 1) (-m) J.2.1 = _
    rw [upd_n (by omega), upd_s]
  · show upd (upd (J.2.2.2.2.2 0) J.2.1 x) (J.2.1 + 1) y (J.2.1 + 1) = _
    rw [upd_s]
  · show upd (upd (J.2.2.2.2.2 1) J.2.1 m) (J.2.1 + 1) (-m) (J.2.1 + 1) = _
    rw [upd_s]
theorem neg_rng {m : Int32} (h1 : 1 ≤ m) (h2 : m ≤ 99999) : (-99999 ≤ m ∧ m ≤ 99999) ∧ -99999 ≤ -m ∧ -m ≤ 99999 := by
  have a := Int32.le_iff_toInt_le.mp h1
  have b := Int32.le_iff_toInt_le.mp h2
  have e1 : (-99999 : Int32).toInt = -99999 := by decide
  have e2 : (99999 : Int32).toInt = 99999 := by decide
  have e3 : (1 : Int32).toInt = 1 := by decide
  have e4 : (-m).toInt = -m.toInt := neg_toI (i0_le.mpr (by omega))
  simp only [Int32.le_iff_toInt_le, e1, e2, e4]
  omega
theorem jTra_fit {J : JP} (h : J.2.1 = 0 ∨ jFit J) (h4 : J.2.1 ≤ 4) {x y m : Int32} (h1 : 1 ≤ m) (h2 : m ≤ 99999) : jFit (jTra J x y m) := by
  obtain ⟨-, -, t3, t4, t5, t6, t7⟩ := jTra_at h4 x y m
  have hl := jTra_l h4 x y m
  obtain ⟨n1, n2⟩ := neg_rng h1 h2
  refine ⟨by omega, by omega, fun k hk => ?_, ?_⟩
  · rw [hl] at hk
    by_cases c : k < J.2.1
    · rw [(t3 k c).2]
      rcases h with h | h
      · omega
      · exact h.2.2.1 k c
    · by_cases c2 : k = J.2.1
      · subst c2; rw [t5]; exact n1
      · rw [show k = J.2.1 + 1 by omega, t7]; exact n2
  · rw [hl, isum, isum, isum_cg (g := J.2.2.2.2.2 1) (fun i hi => (t3 i hi).2), t5, t7]
    have : isum (J.2.2.2.2.2 1) J.2.1 = 0 := by
      rcases h with h | h
      · rw [h]; rfl
      · exact h.2.2.2
    rw [this]
    grind
/-- a journal settled anew keeps to the row of numbers that holds its lines -/
theorem jRel_stl {na j : Nat} {J : JP} {N : Nat → Int32} (G : GP) (h1 : N (50 + 15 * j + 0) = J.1) (h2 : 0 ≤ J.1 ∧ J.1 < 20) (h3 : N (50 + 15 * j + 1) = bi J.2.2.2.2.1) (h4 : N (50 + 15 * j + 2) = nI J.2.1) (h5 : ∀ k, k < J.2.1 → N (50 + 15 * j + (3 + 2 * k)) = J.2.2.2.2.2 0 k ∧ mAm N j k = J.2.2.2.2.2 1 k ∧ ∃ a, a < na ∧ J.2.2.2.2.2 0 k = nI a) (hF : jFit J) : jRel na (stl J G).2 N j := by
  obtain ⟨s1, s2, s3, s4, s5⟩ := stl_same J G
  obtain ⟨t1, t2⟩ := stl_set hF G
  unfold jRel
  rw [s1, s2, s3, s4, s5]
  refine ⟨h1, h2, h3, h4, h5, ?_, t1, t2⟩
  unfold jFit
  rw [s2, s5]
  exact hF
theorem adF_out {N : Nat → Int32} {j n q : Nat} {x y m : Int32} (h : q < 50 + 15 * j + 2 ∨ (50 + 15 * j + 2 < q ∧ q < 50 + 15 * j + 3 + 2 * n) ∨ 50 + 15 * j + 3 + 2 * n + 3 < q) : adF N j n x y m q = N q := by
  unfold adF
  rw [upd_n (by omega), upd_n (by omega), upd_n (by omega), upd_n (by omega), upd_n (by omega)]
theorem adF_at {N : Nat → Int32} {j n : Nat} {x y m : Int32} : adF N j n x y m (50 + 15 * j + 2) = nI (n + 2) ∧ adF N j n x y m (50 + 15 * j + 3 + 2 * n) = x ∧ adF N j n x y m (50 + 15 * j + 3 + 2 * n + 1) = m ∧ adF N j n x y m (50 + 15 * j + 3 + 2 * n + 2) = y ∧ adF N j n x y m (50 + 15 * j + 3 + 2 * n + 3) = -m := by
  unfold adF
  refine ⟨by rw [upd_s], ?_, ?_, ?_, ?_⟩
  · rw [upd_n (by omega), upd_n (by omega), upd_n (by omega), upd_n (by omega), upd_s]
  · rw [upd_n (by omega), upd_n (by omega), upd_n (by omega), upd_s]
  · rw [upd_n (by omega), upd_n (by omega), upd_s]
  · rw [upd_n (by omega), upd_s]
/-- a transfer added to a journal that stands (or that is begun) -/
theorem jRel_tra {na j n : Nat} {J : JP} {N : Nat → Int32} (G : GP) (hn : J.2.1 = n) (h4 : n ≤ 4) (h1 : N (50 + 15 * j + 0) = J.1) (h2 : 0 ≤ J.1 ∧ J.1 < 20) (h3 : N (50 + 15 * j + 1) = bi J.2.2.2.2.1) (h5 : ∀ k, k < n → N (50 + 15 * j + (3 + 2 * k)) = J.2.2.2.2.2 0 k ∧ mAm N j k = J.2.2.2.2.2 1 k ∧ ∃ a, a < na ∧ J.2.2.2.2.2 0 k = nI a) (hF : J.2.1 = 0 ∨ jFit J) {x y m : Int32} (hx : ∃ a, a < na ∧ x = nI a) (hy : ∃ a, a < na ∧ y = nI a) (m1 : 1 ≤ m) (m2 : m ≤ 99999) : jRel na (stl (jTra J x y m) G).2 (adF N j n x y m) j := by
  subst hn
  obtain ⟨t1, t2, t3, t4, t5, t6, t7⟩ := jTra_at h4 x y m
  have hl := jTra_l h4 x y m
  obtain ⟨d1, d2, d3, d4, d5⟩ := @adF_at N j J.2.1 x y m
  refine jRel_stl G ?_ ?_ ?_ ?_ (fun k hk => ?_) (jTra_fit hF h4 m1 m2)
  · rw [adF_out (by omega), t1]; exact h1
  · rw [t1]; exact h2
  · rw [adF_out (by omega), t2]; exact h3
  · rw [d1, hl]
  · rw [hl] at hk
    unfold mAm
    by_cases c : k < J.2.1
    · obtain ⟨p1, p2, p3⟩ := h5 k c
      rw [adF_out (by omega), adF_out (by omega), (t3 k c).1, (t3 k c).2]
      exact ⟨p1, p2, p3⟩
    · by_cases c2 : k = J.2.1
      · subst c2
        rw [show 50 + 15 * j + (3 + 2 * J.2.1) = 50 + 15 * j + 3 + 2 * J.2.1 by omega, show 50 + 15 * j + (3 + 2 * J.2.1 + 1) = 50 + 15 * j + 3 + 2 * J.2.1 + 1 by omega, d2, d3, t4, t5]
        exact ⟨rfl, rfl, hx⟩
      · have e : k = J.2.1 + 1 := by omega
        subst e
        rw [show 50 + 15 * j + (3 + 2 * (J.2.1 + 1)) = 50 + 15 * j + 3 + 2 * J.2.1 + 2 by omega, show 50 + 15 * j + (3 + 2 * (J.2.1 + 1) + 1) = 50 + 15 * j + 3 + 2 * J.2.1 + 3 by omega, d4, d5, t6, t7]
        exact ⟨rfl, rfl, hy⟩
theorem dTf_eq {B : BP} {x y m : Int32} : (inA B.1 x && inA B.1 y && decide (x ≠ y) && isInB m 1 99999) = dTf B x y m := by
  unfold dTf isInB
  simp only [Bool.and_assoc]
theorem dTf_use {B : BP} (hB : okB B) {x y m : Int32} (h : dTf B x y m = true) : (∃ a, a < B.1 ∧ x = nI a) ∧ (∃ a, a < B.1 ∧ y = nI a) ∧ 1 ≤ m ∧ m ≤ 99999 := by
  unfold dTf at h
  simp only [Bool.and_eq_true, decide_eq_true_eq] at h
  exact ⟨inA_ex hB h.1.1.1.1, inA_ex hB h.1.1.1.2, h.1.2, h.2⟩
theorem inB_pe (p : Int32) : isInB p 0 19 = dPe p := by
  have a : (20 : Int32).toInt = 20 := by decide
  have b : (19 : Int32).toInt = 19 := by decide
  unfold isInB dPe
  simp only [Int32.lt_iff_toInt_lt, Int32.le_iff_toInt_le, a, b]
  rw [Bool.eq_iff_iff]
  simp only [Bool.and_eq_true, decide_eq_true_eq]
  omega
theorem inR_ex {B : BP} (hB : okB B) {x : Int32} (h : inR B.2.1 x = true) : ∃ j, j < B.2.1 ∧ x = nI j ∧ x.toNatClampNeg = j := by
  obtain ⟨j, e, hj⟩ := inL_true hB.2.1 h
  exact ⟨j, hj, e, by rw [e]; exact nI_cl (by have := hB.2.1; omega)⟩
