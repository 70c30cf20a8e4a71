/-! 50: figures of pieces and of journals, alike -/
theorem k6 {x : Int32} (h : 0 ≤ x ∧ x < 6) : x = 0 ∨ x = 1 ∨ x = 2 ∨ x = 3 ∨ x = 4 ∨ x = 5 := by
  obtain ⟨h0, h1⟩ := h
  have a := Int32.le_iff_toInt_le.mp h0
  have b := Int32.lt_iff_toInt_lt.mp h1
  have e0 : (0 : Int32).toInt = 0 := by decide
  have e6 : (6 : Int32).toInt = 6 := by decide
  rw [e0] at a
  rw [e6] at b
  rcases (show x.toInt = 0 ∨ x.toInt = 1 ∨ x.toInt = 2 ∨ x.toInt = 3 ∨ x.toInt = 4 ∨ x.toInt = 5 by omega) with e | e | e | e | e | e
  · exact Or.inl (Int32.toInt_inj.mp e)
  · exact Or.inr (Or.inl (Int32.toInt_inj.mp e))
  · exact Or.inr (Or.inr (Or.inl (Int32.toInt_inj.mp e)))
  · exact Or.inr (Or.inr (Or.inr (Or.inl (Int32.toInt_inj.mp e))))
  · exact Or.inr (Or.inr (Or.inr (Or.inr (Or.inl (Int32.toInt_inj.mp e)))))
  · exact Or.inr (Or.inr (Or.inr (Or.inr (Or.inr (Int32.toInt_inj.mp e)))))
theorem r_k {B : BP} {N : Nat → Int32} (h : bRel B N) {j k : Nat} (hj : j < B.2.1) (hk : k < rNp B j) : N (2 + 4 * rCr B j k) = bKc B j k ∧ N (2 + 4 * rDe B j k) = bKd B j k ∧ (0 ≤ bKc B j k ∧ bKc B j k < 6) ∧ 0 ≤ bKd B j k ∧ bKd B j k < 6 := by
  obtain ⟨⟨a, ha, f1, e1⟩, b, hb, f2, e2⟩ := pc_ac h hj hk
  unfold bKc bKd
  rw [e1, e2, f1, f2, (r_acc h ha).1, (r_acc h hb).1]
  obtain ⟨p1, -, p3, -⟩ := h.2.2.2.1 a ha
  obtain ⟨q1, -, q3, -⟩ := h.2.2.2.1 b hb
  rw [p1, q1]
  exact ⟨rfl, rfl, p3, q3⟩
theorem cls_eq {x y : Int32} (hx : 0 ≤ x ∧ x < 6) (hy : 0 ≤ y ∧ y < 6) : mCls x y = sortC x y := by
  rcases k6 hx with rfl | rfl | rfl | rfl | rfl | rfl <;> rcases k6 hy with rfl | rfl | rfl | rfl | rfl | rfl <;> decide
theorem ap_eq {x y : Int32} (hx : 0 ≤ x ∧ x < 6) (hy : 0 ≤ y ∧ y < 6) (mv : Int32) : (if mCls x y ≠ 4 ∨ (decide (x = 1 ∨ x = 2) = decide (y = 1 ∨ y = 2)) then 0 else if x = 1 ∨ x = 2 then -mv else mv) = apC x y mv := by
  rcases k6 hx with rfl | rfl | rfl | rfl | rfl | rfl <;> rcases k6 hy with rfl | rfl | rfl | rfl | rfl | rfl <;> first | rfl | simp [mCls, apC, sortC, classC]
theorem mn_mx {x y a b : Int32} (hab : a ≤ b) : (imin x y = a ∧ imax x y = b) ↔ ((x = a ∧ y = b) ∨ (x = b ∧ y = a)) := by
  unfold imin imax
  simp only [Int32.lt_iff_toInt_lt, Int32.le_iff_toInt_le, ← Int32.toInt_inj] at *
  by_cases h : y.toInt < x.toInt
  · rw [if_pos h, if_neg (by omega)]
    omega
  · rw [if_neg h]
    by_cases h2 : x.toInt < y.toInt
    · rw [if_pos h2]; omega
    · rw [if_neg h2]; omega
theorem arP_eq (f t : Int32) : arP f t = dPs f t := by
  have a : (20 : Int32).toInt = 20 := by decide
  have b : (19 : Int32).toInt = 19 := by decide
  have c : (0 : Int32).toInt = 0 := by decide
  unfold arP isInB dPs dPe
  simp only [Int32.lt_iff_toInt_lt, Int32.le_iff_toInt_le, a, b, c]
  rw [Bool.eq_iff_iff]
  simp only [Bool.and_eq_true, decide_eq_true_eq]
  omega
theorem inB_cl (x : Int32) : isInB x 0 3 = dCl x := by
  have a : (3 : Int32).toInt = 3 := by decide
  have b : (4 : Int32).toInt = 4 := by decide
  have c : (0 : Int32).toInt = 0 := by decide
  unfold isInB dCl
  simp only [Int32.lt_iff_toInt_lt, Int32.le_iff_toInt_le, a, b, c]
  rw [Bool.eq_iff_iff]
  simp only [Bool.and_eq_true, decide_eq_true_eq]
  omega
theorem r_makes {B : BP} {N : Nat → Int32} (h : bRel B N) (so f t : Int32) : (if (isInB so 0 3 && arP f t) = true then mkF N (rNp B) (rCr B) (rDe B) so f t B.2.1 else -1) = dMak B so f t := by
  have e : mkF N (rNp B) (rCr B) (rDe B) so f t B.2.1 = dMk B so f t := by
    unfold mkF dMk
    refine iorf_cg (fun j hj => ?_)
    rw [r_cnt h hj]
    by_cases hc : bCnt B j f t = true
    · rw [if_pos hc, if_pos hc]
      refine iorf_cg (fun k hk => ?_)
      obtain ⟨k1, k2, k3, k4⟩ := r_k h hj hk
      rw [k1, k2, cls_eq k3 k4]
      rfl
    · rw [if_neg hc, if_neg hc]
  unfold dMak
  rw [e, arP_eq, inB_cl]
  simp only [Bool.and_eq_true]
theorem r_apart {B : BP} {N : Nat → Int32} (h : bRel B N) (f t : Int32) : apF N (rNp B) (rCr B) (rDe B) (rMv B) f t B.2.1 = dAp B f t := by
  unfold apF dAp
  refine isum_cg (fun j hj => ?_)
  rw [r_cnt h hj]
  by_cases hc : bCnt B j f t = true
  · rw [if_pos hc, if_pos hc]
    refine isum_cg (fun k hk => ?_)
    obtain ⟨k1, k2, k3, k4⟩ := r_k h hj hk
    rw [k1, k2]
    exact ap_eq k3 k4 _
  · rw [if_neg hc, if_neg hc]
theorem r_deals {B : BP} {N : Nat → Int32} (h : bRel B N) (ki ot f t : Int32) : (if (isInB ki 1 5 && isInB ot ki 5 && arP f t) = true then dlF N (rNp B) (rCr B) (rDe B) (rMv B) ki ot f t B.2.1 else -1) = dDea B ki ot f t := by
  have hcond : ((isInB ki 1 5 && isInB ot ki 5 && arP f t) = true) = (0 < ki ∧ ki ≤ ot ∧ ot < 6 ∧ dPs f t = true) := by
    rw [arP_eq]
    have a : (5 : Int32).toInt = 5 := by decide
    have b : (6 : Int32).toInt = 6 := by decide
    have c : (0 : Int32).toInt = 0 := by decide
    have d : (1 : Int32).toInt = 1 := by decide
    unfold isInB
    simp only [Bool.and_eq_true, decide_eq_true_eq, Int32.lt_iff_toInt_lt, Int32.le_iff_toInt_le, a, b, c, d]
    refine propext ⟨fun q => ⟨by omega, by omega, by omega, q.2⟩, fun q => ⟨⟨⟨by omega, by omega⟩, by omega, by omega⟩, q.2.2.2⟩⟩
  unfold dDea
  simp only [hcond]
  by_cases hh : 0 < ki ∧ ki ≤ ot ∧ ot < 6 ∧ dPs f t = true
  · rw [if_pos hh, if_pos hh]
    unfold dlF dDl
    refine isum_cg (fun j hj => ?_)
    rw [r_cnt h hj]
    by_cases hc : bCnt B j f t = true
    · rw [if_pos hc, if_pos hc]
      refine isum_cg (fun k hk => ?_)
      obtain ⟨k1, k2, k3, k4⟩ := r_k h hj hk
      rw [k1, k2]
      have := mn_mx (x := bKc B j k) (y := bKd B j k) hh.2.1
      simp only [this]
      rfl
    · rw [if_neg hc, if_neg hc]
  · rw [if_neg hh, if_neg hh]
theorem r_direct {B : BP} {N : Nat → Int32} (h : bRel B N) (so f t x : Int32) : (if (isInB so 0 3 && arP f t && isInB x 0 2) = true then (if x = 0 then diF N (rNp B) (rCr B) (rDe B) (rMv B) so f t B.2.1 else if x = 1 then doF N (rNp B) (rCr B) (rDe B) (rMv B) so f t B.2.1 else diF N (rNp B) (rCr B) (rDe B) (rMv B) so f t B.2.1 - doF N (rNp B) (rCr B) (rDe B) (rMv B) so f t B.2.1) else -100000000) = dDir B so f t x := by
  have e1 : diF N (rNp B) (rCr B) (rDe B) (rMv B) so f t B.2.1 = dCm B so true f t := by
    unfold diF dCm
    refine isum_cg (fun j hj => ?_)
    rw [r_cnt h hj]
    by_cases hc : bCnt B j f t = true
    · rw [if_pos hc, if_pos hc]
      refine isum_cg (fun k hk => ?_)
      obtain ⟨k1, k2, k3, k4⟩ := r_k h hj hk
      rw [k1, k2, cls_eq k3 k4]
      have : (sortC (bKc B j k) (bKd B j k) = so ∧ bKd B j k = 0) = (decide (bKd B j k = 0) = true ∧ bSort B j k = so) := by
        refine propext ⟨fun q => ⟨decide_eq_true q.2, q.1⟩, fun q => ⟨q.2, of_decide_eq_true q.1⟩⟩
      simp only [this]
      rfl
    · rw [if_neg hc, if_neg hc]
  have e2 : doF N (rNp B) (rCr B) (rDe B) (rMv B) so f t B.2.1 = dCm B so false f t := by
    unfold doF dCm
    refine isum_cg (fun j hj => ?_)
    rw [r_cnt h hj]
    by_cases hc : bCnt B j f t = true
    · rw [if_pos hc, if_pos hc]
      refine isum_cg (fun k hk => ?_)
      obtain ⟨k1, k2, k3, k4⟩ := r_k h hj hk
      rw [k1, k2, cls_eq k3 k4]
      have : (sortC (bKc B j k) (bKd B j k) = so ∧ bKd B j k ≠ 0) = (decide (bKd B j k = 0) = false ∧ bSort B j k = so) := by
        refine propext ⟨fun q => ⟨decide_eq_false q.2, q.1⟩, fun q => ⟨q.2, of_decide_eq_false q.1⟩⟩
      simp only [this]
      rfl
    · rw [if_neg hc, if_neg hc]
  have hcond : ((isInB so 0 3 && arP f t && isInB x 0 2) = true) = (dCl so = true ∧ dPs f t = true ∧ 0 ≤ x ∧ x ≤ 2) := by
    rw [arP_eq, inB_cl]
    unfold isInB
    simp only [Bool.and_eq_true, decide_eq_true_eq]
    exact propext ⟨fun q => ⟨q.1.1, q.1.2, q.2.1, q.2.2⟩, fun q => ⟨⟨q.1, q.2.1⟩, q.2.2.1, q.2.2.2⟩⟩
  unfold dDir
  rw [e1, e2]
  simp only [hcond, Int32.sub_zero]
  by_cases h0 : x = 0
  · subst h0
    simp
  · by_cases h1 : x = 1
    · subst h1
      simp
    · simp only [h0, h1, if_false]
theorem r_piece {B : BP} {N : Nat → Int32} (h : bRel B N) (x y z : Int32) : mPie N (rNp B) (rCr B) (rDe B) (rMv B) B.2.1 x y z = dPie B x y z := by
  unfold mPie dPie
  have h30 := h.1.2.1
  by_cases hx : inR B.2.1 x = true
  · obtain ⟨j, hj, hl⟩ := inL_true h30 hx
    subst hj
    have hc : (nI j).toNatClampNeg = j := nI_cl (by omega)
    rw [hc]
    by_cases hy : inN (B.2.2.2 j).2.2.2.1 y = true
    · have hy' : inL 6 (rNp B j) y = true := hy
      obtain ⟨k, hk, hkl⟩ := inN_true (h.1.2.2 j (by omega)).2.1 hy
      subst hk
      have h6 := (h.1.2.2 j (by omega)).2.1
      have hck : (nI k).toNatClampNeg = k := nI_clamp (by omega)
      rw [if_pos hy', if_pos (⟨hx, hy⟩ : inR B.2.1 (nI j) = true ∧ inN (B.2.2.2 j).2.2.2.1 (nI k) = true), hck, show (inR B.2.1 (nI j) && isInB z 0 3) = isInB z 0 3 by rw [hx]; rfl]
      obtain ⟨⟨a, ha, f1, e1⟩, b, hb, f2, e2⟩ := pc_ac h hl hkl
      obtain ⟨k1, k2, k3, k4⟩ := r_k h hl hkl
      have v1 : jCre (B.2.2.2 j) (nI k) = nI (rCr B j k) := by unfold jCre; rw [if_pos hy, hck, f1, e1]
      have v2 : jDeb (B.2.2.2 j) (nI k) = nI (rDe B j k) := by unfold jDeb; rw [if_pos hy, hck, f2, e2]
      have v3 : jMov (B.2.2.2 j) (nI k) = rMv B j k := by unfold jMov; rw [if_pos hy, hck]
      rw [v1, v2, v3, k1, k2, cls_eq k3 k4]
      by_cases z0 : z = 0
      · subst z0
        have e0 : isInB 0 0 3 = true := by decide
        simp [e0, bSort]
      by_cases z1 : z = 1
      · subst z1
        have e0 : isInB 1 0 3 = true := by decide
        simp [e0, bSort]
      by_cases z2 : z = 2
      · subst z2
        have e0 : isInB 2 0 3 = true := by decide
        simp [e0, bSort]
      by_cases z3 : z = 3
      · subst z3
        have e0 : isInB 3 0 3 = true := by decide
        simp [e0, bSort]
      rw [if_neg (?_ : ¬ isInB z 0 3 = true), if_neg z0, if_neg z1, if_neg z2, if_neg z3]
      intro q
      unfold isInB at q
      simp only [Bool.and_eq_true, decide_eq_true_eq] at q
      rcases k6 ⟨q.1, Int32.lt_of_le_of_lt q.2 (by decide)⟩ with r | r | r | r | r | r
      · exact z0 r
      · exact z1 r
      · exact z2 r
      · exact z3 r
      · rw [r] at q; exact absurd q.2 (by decide)
      · rw [r] at q; exact absurd q.2 (by decide)
    · have hy' : ¬ inL 6 (rNp B j) y = true := hy
      rw [if_neg hy', if_neg (fun q => hy q.2 : ¬ (inR B.2.1 (nI j) = true ∧ inN (B.2.2.2 j).2.2.2.1 y = true))]
      split <;> rfl
  · rw [if_neg (by simp [hx] : ¬ (inR B.2.1 x && isInB z 0 3) = true), if_neg (fun q => hx q.1 : ¬ (inR B.2.1 x = true ∧ inN (B.2.2.2 x.toNatClampNeg).2.2.2.1 y = true))]
