/-! 49: the book and the row of numbers; figures that are alike -/
def jRel (na : Nat) (J : JP) (N : Nat → Int32) (j : Nat) : Prop :=
  N (50 + 15 * j + 0) = J.1 ∧ (0 ≤ J.1 ∧ J.1 < 20) ∧ N (50 + 15 * j + 1) = bi J.2.2.2.2.1 ∧ N (50 + 15 * j + 2) = nI J.2.1 ∧ (∀ k, k < J.2.1 → N (50 + 15 * j + (3 + 2 * k)) = J.2.2.2.2.2 0 k ∧ mAm N j k = J.2.2.2.2.2 1 k ∧ ∃ a, a < na ∧ J.2.2.2.2.2 0 k = nI a) ∧ jFit J ∧ jSet J ∧ jPcs J
def aRel (X : Nat → Nat → Int32) (N : Nat → Int32) (i : Nat) : Prop :=
  N (2 + 4 * i) = X 0 i ∧ N (2 + 4 * i + 1) = X 1 i ∧ (0 ≤ X 0 i ∧ X 0 i < 6) ∧ ((X 2 i = -100000000 ∧ N (2 + 4 * i + 2) = 0 ∧ N (2 + 4 * i + 3) = 0) ∨ (X 2 i ≠ -100000000 ∧ N (2 + 4 * i + 2) = 1 ∧ N (2 + 4 * i + 3) = X 2 i))
def bRel (B : BP) (N : Nat → Int32) : Prop :=
  okB B ∧ N 0 = nI B.1 ∧ N 1 = nI B.2.1 ∧ (∀ i, i < B.1 → aRel B.2.2.1 N i) ∧ ∀ j, j < B.2.1 → jRel B.1 (B.2.2.2 j) N j
abbrev rNl (B : BP) (j : Nat) : Nat := (B.2.2.2 j).2.1
abbrev rLa (B : BP) (j k : Nat) : Nat := ((B.2.2.2 j).2.2.2.2.2 0 k).toNatClampNeg
abbrev rNp (B : BP) (j : Nat) : Nat := (B.2.2.2 j).2.2.2.1
abbrev rNg (B : BP) (j : Nat) : Nat := (B.2.2.2 j).2.2.1
abbrev rCr (B : BP) (j k : Nat) : Nat := ((B.2.2.2 j).2.2.2.2.2 3 k).toNatClampNeg
abbrev rDe (B : BP) (j k : Nat) : Nat := ((B.2.2.2 j).2.2.2.2.2 4 k).toNatClampNeg
abbrev rMv (B : BP) (j k : Nat) : Int32 := (B.2.2.2 j).2.2.2.2.2 5 k
abbrev rGr (B : BP) (j k : Nat) : Int32 := (B.2.2.2 j).2.2.2.2.2 2 k
theorem cl12 {a n : Nat} (ha : a < n) (hn : n ≤ 12) : (nI a).toNatClampNeg = a := nI_clamp (by omega)
/-- accounts that a piece names -/
theorem pc_ac {B : BP} {N : Nat → Int32} (h : bRel B N) {j k : Nat} (hj : j < B.2.1) (hk : k < rNp B j) : (∃ a, a < B.1 ∧ (B.2.2.2 j).2.2.2.2.2 3 k = nI a ∧ rCr B j k = a) ∧ ∃ a, a < B.1 ∧ (B.2.2.2 j).2.2.2.2.2 4 k = nI a ∧ rDe B j k = a := by
  obtain ⟨hB, h0, h1, hA, hJ⟩ := h
  obtain ⟨j1, j2, j3, j4, j5, j6, j7, j8⟩ := hJ j hj
  obtain ⟨c, d, hc, hd, e1, e2⟩ := j8 k hk
  obtain ⟨-, -, a, ha, ea⟩ := j5 c hc
  obtain ⟨-, -, b, hb, eb⟩ := j5 d hd
  exact ⟨⟨a, ha, by rw [e1, ea], by rw [rCr, e1, ea, cl12 ha hB.1]⟩, b, hb, by rw [e2, eb], by rw [rDe, e2, eb, cl12 hb hB.1]⟩
theorem r_okN {B : BP} {N : Nat → Int32} (h : bRel B N) : okN N B.1 B.2.1 (rNl B) (rLa B) := by
  obtain ⟨hB, h0, h1, hA, hJ⟩ := h
  refine ⟨h0, h1, hB.1, hB.2.1, fun j hj => ?_, fun j k hj hk => ?_⟩
  · obtain ⟨j1, j2, j3, j4, j5, j6, j7, j8⟩ := hJ j hj
    exact ⟨j4, j6.2.1⟩
  · obtain ⟨j1, j2, j3, j4, j5, j6, j7, j8⟩ := hJ j hj
    obtain ⟨e1, -, a, ha, ea⟩ := j5 k hk
    rw [rLa, e1, ea, cl12 ha hB.1]
    exact ⟨rfl, ha⟩
theorem r_okP {B : BP} {N : Nat → Int32} (h : bRel B N) : okP N B.1 B.2.1 (rNl B) (rNp B) (rNg B) (rCr B) (rDe B) (rMv B) (rGr B) := by
  have hh := h
  obtain ⟨hB, h0, h1, hA, hJ⟩ := h
  have h30 := hB.2.1
  refine ⟨fun j hj => ⟨(hB.2.2 j (by omega)).2.1, (hB.2.2 j (by omega)).2.2⟩, fun j k hj hk => ?_, fun X hX j hj => ?_⟩
  · obtain ⟨⟨a, ha, -, e1⟩, b, hb, -, e2⟩ := pc_ac hh hj hk
    rw [e1, e2]
    exact ⟨ha, hb⟩
  · obtain ⟨j1, j2, j3, j4, j5, j6, j7, j8⟩ := hJ j hj
    obtain ⟨s1, s2, s3, s4⟩ := j7 X j (fun k hk => by rw [hX]; exact ⟨(j5 k hk).2.1, (j5 k hk).1⟩)
    refine ⟨s1, s2, fun k hk => ?_, s4⟩
    obtain ⟨⟨a, ha, f1, e1⟩, b, hb, f2, e2⟩ := pc_ac hh hj hk
    obtain ⟨t1, t2, t3⟩ := s3 k hk
    rw [e1, e2, t1, t2, f1, f2]
    exact ⟨rfl, rfl, t3⟩
theorem isum_cg {f g : Nat → Int32} : ∀ {n : Nat}, (∀ i, i < n → f i = g i) → isum f n = isum g n
  | 0, _ => rfl
  | n + 1, h => by rw [isum, isum, isum_cg (n := n) (fun i hi => h i (by omega)), h n (by omega)]
theorem iorf_cg {f g : Nat → Int32} : ∀ {n : Nat}, (∀ i, i < n → f i = g i) → iorf f n = iorf g n
  | 0, _ => rfl
  | n + 1, h => by rw [iorf, iorf, iorf_cg (n := n) (fun i hi => h i (by omega)), h n (by omega)]
theorem r_cnt {B : BP} {N : Nat → Int32} (h : bRel B N) {j : Nat} (hj : j < B.2.1) (f t : Int32) : mCnt N j f t = bCnt B j f t := by
  obtain ⟨j1, j2, j3, -⟩ := h.2.2.2.2 j hj
  unfold mCnt bCnt jCounts isInB
  rw [j1, j3, decide_eq_true hj, Bool.true_and]
  cases (B.2.2.2 j).2.2.2.2.1 <;> simp [bi]
theorem r_cnt20 {B : BP} {N : Nat → Int32} (h : bRel B N) {j : Nat} (hj : j < B.2.1) : mCnt N j 0 20 = bCnt B j 0 19 := by
  obtain ⟨j1, j2, j3, -⟩ := h.2.2.2.2 j hj
  unfold mCnt bCnt jCounts isInB
  rw [j1, j3, decide_eq_true hj, Bool.true_and]
  have e1 : ((B.2.2.2 j).1 ≤ 20) = True := eq_true (Int32.le_of_lt j2.2)
  have e2 : ((B.2.2.2 j).1 ≤ 19) = True := eq_true (by
    have := Int32.lt_iff_toInt_lt.mp j2.2
    rw [Int32.le_iff_toInt_le]
    have a : (20 : Int32).toInt = 20 := by decide
    have b : (19 : Int32).toInt = 19 := by decide
    omega)
  simp only [e1, e2]
  cases (B.2.2.2 j).2.2.2.2.1 <;> simp [bi]
theorem r_net {na : Nat} {J : JP} {N : Nat → Int32} {j : Nat} (h : jRel na J N j) (x : Int32) : ∀ {n : Nat}, n ≤ J.2.1 → mNet N j x n = jNet J x n
  | 0, _ => rfl
  | n + 1, hn => by
    obtain ⟨j1, j2, j3, j4, j5, j6, j7, j8⟩ := id h
    rw [mNet, jNet, r_net h x (n := n) (by omega), (j5 n (by omega)).1, (j5 n (by omega)).2.1]
theorem r_mv {B : BP} {N : Nat → Int32} (h : bRel B N) (x f t f' t' : Int32) (hc : ∀ j, j < B.2.1 → mCnt N j f t = bCnt B j f' t') : ∀ {n : Nat}, n ≤ B.2.1 → mMv N (rNl B) x f t n = isum (fun n => if bCnt B n f' t' then jNet (B.2.2.2 n) x (B.2.2.2 n).2.1 else 0) n
  | 0, _ => rfl
  | n + 1, hn => by
    rw [mMv, isum, r_mv h x f t f' t' hc (n := n) (by omega), hc n (by omega), r_net (h.2.2.2.2 n (by omega)) x (Nat.le_refl _)]
    split
    · rfl
    · rw [Int32.add_zero]
theorem r_inA {B : BP} (hB : okB B) {i : Nat} (hi : i < B.1) : inA B.1 (nI i) = true := by
  rw [inA_nI hB.1 (by have := hB.1; omega)]
  exact decide_eq_true hi
theorem r_acc {B : BP} {N : Nat → Int32} (h : bRel B N) {i : Nat} (hi : i < B.1) : bKind B (nI i) = N (2 + 4 * i) ∧ bFirst B (nI i) = N (2 + 4 * i + 1) ∧ N (2 + 4 * i + 2) = bi (bIsT B (nI i)) ∧ (if bIsT B (nI i) = true then bTold B (nI i) else 0) = N (2 + 4 * i + 3) := by
  obtain ⟨a1, a2, a3, a4⟩ := h.2.2.2.1 i hi
  have hc := cl12 hi h.1.1
  have e : bTold B (nI i) = B.2.2.1 2 i := by unfold bTold; rw [r_inA h.1 hi, hc]; rfl
  unfold bKind bFirst bIsT
  rw [r_inA h.1 hi, hc, e]
  refine ⟨a1.symm, a2.symm, ?_, ?_⟩
  · rcases a4 with ⟨p, q, r⟩ | ⟨p, q, r⟩
    · rw [q, p]; decide
    · rw [q, decide_eq_true p]; rfl
  · rcases a4 with ⟨p, q, r⟩ | ⟨p, q, r⟩
    · rw [r, p]; decide
    · rw [r, if_pos (decide_eq_true p)]
theorem r_bal {B : BP} {N : Nat → Int32} (h : bRel B N) {i : Nat} (hi : i < B.1) (p : Int32) : mBal N (rNl B) B.2.1 i p = bBal B (nI i) p := by
  unfold mBal bBal
  rw [(r_acc h hi).2.1, r_mv h (nI i) 0 p 0 p (fun j hj => r_cnt h hj 0 p) (Nat.le_refl _)]
theorem r_bal20 {B : BP} {N : Nat → Int32} (h : bRel B N) {i : Nat} (hi : i < B.1) : mBal N (rNl B) B.2.1 i 20 = bBal B (nI i) 19 := by
  unfold mBal bBal
  rw [(r_acc h hi).2.1, r_mv h (nI i) 0 20 0 19 (fun j hj => r_cnt20 h hj) (Nat.le_refl _)]
theorem r_res {B : BP} {N : Nat → Int32} (h : bRel B N) {i : Nat} (hi : i < B.1) : mRes N (rNl B) B.2.1 i = bRes B (nI i) := by
  obtain ⟨-, -, a3, a4⟩ := r_acc h hi
  unfold mRes bRes
  rw [r_bal20 h hi, a3, ← a4]
  cases bIsT B (nI i) <;> rfl
theorem r_now {B : BP} {N : Nat → Int32} (h : bRel B N) (T : TP) (A : AP) (x : Int32) : mNow N B.1 B.2.1 A.1 T.1 x = dNow T A B x := by
  unfold mNow dNow dSt dTo
  rw [isum_cg (f := fun j => N (50 + 15 * j + 1)) (g := fun k => bi (B.2.2.2 k).2.2.2.2.1) (fun j hj => (h.2.2.2.2 j hj).2.2.1), isum_cg (f := fun i => N (2 + 4 * i + 2)) (g := fun k => bi (bIsT B (nI k))) (fun i hi => (r_acc h hi).2.2.1)]
theorem inA_ex {B : BP} (hB : okB B) {x : Int32} (h : inA B.1 x = true) : ∃ i, i < B.1 ∧ x = nI i := by
  obtain ⟨i, e, hi⟩ := inL_true (by have := hB.1; omega) h
  exact ⟨i, hi, e⟩
theorem r_account {B : BP} {N : Nat → Int32} (h : bRel B N) (x y : Int32) : mAcc N (rNl B) B.1 B.2.1 x y = (match dAcc B x y with | some v => (0, v) | none => (1, 0)) := by
  unfold mAcc dAcc
  by_cases hx : inA B.1 x = true
  · obtain ⟨i, hi, rfl⟩ := inA_ex h.1 hx
    obtain ⟨a1, a2, a3, a4⟩ := r_acc h hi
    rw [if_pos hx, if_pos hx, cl12 hi h.1.1, a1, a2, r_bal20 h hi, r_res h hi, ← a4]
    repeat' split
    all_goals first | rfl | simp_all
  · rw [if_neg hx, if_neg hx]
theorem r_balance {B : BP} {N : Nat → Int32} (h : bRel B N) (x p : Int32) : (if (inA B.1 x && isInB p 0 19) = true then mBal N (rNl B) B.2.1 x.toNatClampNeg p else -100000000) = dBal B x p := by
  have hp : isInB p 0 19 = dPe p := by
    unfold isInB dPe
    have : (p ≤ 19) = (p < 20) := propext (by
      rw [Int32.le_iff_toInt_le, Int32.lt_iff_toInt_lt]
      have a : (20 : Int32).toInt = 20 := by decide
      have b : (19 : Int32).toInt = 19 := by decide
      omega)
    simp only [this]
  unfold dBal
  rw [hp]
  by_cases hx : inA B.1 x = true
  · obtain ⟨i, hi, rfl⟩ := inA_ex h.1 hx
    rw [cl12 hi h.1.1, r_bal h hi, hx]
    simp
  · rw [if_neg (by simp [hx]), if_neg (by simp [hx])]
