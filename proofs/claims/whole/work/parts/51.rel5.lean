/-! 51: journal's figures; what accounts of a kind are credited -/
theorem dv10 : ∀ m : Nat, m < 40 → nI m / 10 = nI (m / 10) ∧ nI m - nI m / 10 * 10 = nI (m % 10) ∧ (10 ≤ m → (nI m - 10).toNatClampNeg = m - 10) ∧ (20 ≤ m → (nI m - 20).toNatClampNeg = m - 20) ∧ (30 ≤ m → (nI m - 30).toNatClampNeg = m - 30) := by decide +kernel
theorem inB_n {a b m : Nat} (ha : a < 1000) (hb : b < 1000) (hm : m < 1000) : isInB (nI m) (nI a) (nI b) = decide (a ≤ m ∧ m ≤ b) := by
  unfold isInB
  have e1 : (nI a ≤ nI m) = (a ≤ m) := propext (nI_leI (by omega) (by omega))
  have e2 : (nI m ≤ nI b) = (m ≤ b) := propext (nI_leI (by omega) (by omega))
  simp only [e1, e2]
  rw [Bool.decide_and]
theorem r_journal {B : BP} {N : Nat → Int32} (h : bRel B N) (x y : Int32) : mJou N (rNl B) (rNp B) (rNg B) (rGr B) B.2.1 x y = (match dJou B x y with | some v => (0, v) | none => (1, 0)) := by
  have h30 := h.1.2.1
  unfold mJou dJou
  by_cases hx : inR B.2.1 x = true
  · obtain ⟨j, hj, hl⟩ := inL_true h30 hx
    subst hj
    have hc : (nI j).toNatClampNeg = j := nI_cl (by omega)
    obtain ⟨j1, j2, j3, j4, j5, j6, j7, j8⟩ := h.2.2.2.2 j hl
    have h6 := j6.2.1
    have hnl : rNl B j = (B.2.2.2 j).2.1 := rfl
    rw [if_pos hx, if_pos hx, hc]
    by_cases hr : 10 ≤ y ∧ y < 40
    · obtain ⟨m, hm, rfl⟩ := nI_of (x := y) (fun q => by
        have a := Int32.lt_iff_toInt_lt.mp q
        have b := Int32.le_iff_toInt_le.mp hr.1
        have c : (10 : Int32).toInt = 10 := by decide
        have d : (0 : Int32).toInt = 0 := by decide
        omega)
      have m1 : 10 ≤ m := (nI_leI (a := 10) (b := m) (by omega) hm).mp hr.1
      have m2 : m < 40 := (nI_ltI (a := m) (b := 40) hm (by omega)).mp hr.2
      obtain ⟨d1, d2, d3, d4, d5⟩ := dv10 m m2
      have i1 : isInB (nI m) 10 (nI (9 + rNl B j)) = decide (10 ≤ m ∧ m ≤ 9 + rNl B j) := inB_n (a := 10) (by omega) (by omega) (by omega)
      have i2 : isInB (nI m) 20 (nI (19 + rNl B j)) = decide (20 ≤ m ∧ m ≤ 19 + rNl B j) := inB_n (a := 20) (by omega) (by omega) (by omega)
      have i3 : isInB (nI m) 30 (nI (29 + rNl B j)) = decide (30 ≤ m ∧ m ≤ 29 + rNl B j) := inB_n (a := 30) (by omega) (by omega) (by omega)
      have ne : ∀ k : Nat, k < 5 → ¬ nI m = nI k := fun k hk e => by have := (nI_eq hm (by omega)).mp e; omega
      have n0 : ¬ nI m = 0 := ne 0 (by omega)
      have n1 : ¬ nI m = 1 := ne 1 (by omega)
      have n2 : ¬ nI m = 2 := ne 2 (by omega)
      have n3 : ¬ nI m = 3 := ne 3 (by omega)
      have n4 : ¬ nI m = 4 := ne 4 (by omega)
      have hcond : (¬ nI m < 10 ∧ ¬ 40 ≤ nI m ∧ nI (m % 10) < nI (B.2.2.2 j).2.1) = (m % 10 < (B.2.2.2 j).2.1) := by
        have e1 : (nI m < 10) = False := eq_false (fun q => by have := (nI_ltI (a := m) (b := 10) hm (by omega)).mp q; omega)
        have e2 : (40 ≤ nI m) = False := eq_false (fun q => by have := (nI_leI (a := 40) (b := m) (by omega) hm).mp q; omega)
        have e3 : (nI (m % 10) < nI (B.2.2.2 j).2.1) = (m % 10 < (B.2.2.2 j).2.1) := propext (nI_ltI (by omega) (by omega))
        rw [e1, e2, e3]
        simp
      unfold dJo1
      rw [if_neg n0, if_neg n1, if_neg n2, if_neg n3, if_neg n4, if_neg n0, if_neg n1, if_neg n2, if_neg n3, if_neg n4]
      simp only [d2]
      simp only [hcond, i1, i2, i3, d1, decide_eq_true_eq]
      have q1 : (nI (m / 10) = 1) = (m / 10 = 1) := propext (nI_eq (a := m / 10) (b := 1) (by omega) (by omega))
      have q2 : (nI (m / 10) = 2) = (m / 10 = 2) := propext (nI_eq (a := m / 10) (b := 2) (by omega) (by omega))
      simp only [q1, q2]
      by_cases hlt : m % 10 < (B.2.2.2 j).2.1
      · rw [if_pos hlt]
        obtain ⟨v1, v2, v3⟩ := jAt h6 (k := m % 10) (by omega)
        rw [if_pos hlt] at v1 v2 v3
        obtain ⟨l1, l2, -⟩ := j5 (m % 10) hlt
        rcases (show m / 10 = 1 ∨ m / 10 = 2 ∨ m / 10 = 3 by omega) with e | e | e
        · rw [if_pos (show 10 ≤ m ∧ m ≤ 9 + rNl B j from ⟨by omega, by show m ≤ 9 + (B.2.2.2 j).2.1; omega⟩), if_pos e, d3 m1, show m - 10 = m % 10 by omega, l1, v3]
        · rw [if_neg (show ¬ (10 ≤ m ∧ m ≤ 9 + rNl B j) from fun q => by have : m ≤ 9 + (B.2.2.2 j).2.1 := q.2; omega), if_pos (show 20 ≤ m ∧ m ≤ 19 + rNl B j from ⟨by omega, by show m ≤ 19 + (B.2.2.2 j).2.1; omega⟩), if_neg (by omega), if_pos e, d4 (by omega), show m - 20 = m % 10 by omega, l2, v2]
        · rw [if_neg (show ¬ (10 ≤ m ∧ m ≤ 9 + rNl B j) from fun q => by have : m ≤ 9 + (B.2.2.2 j).2.1 := q.2; omega), if_neg (show ¬ (20 ≤ m ∧ m ≤ 19 + rNl B j) from fun q => by have : m ≤ 19 + (B.2.2.2 j).2.1 := q.2; omega), if_pos (show 30 ≤ m ∧ m ≤ 29 + rNl B j from ⟨by omega, by show m ≤ 29 + (B.2.2.2 j).2.1; omega⟩), if_neg (by omega), if_neg (by omega), d5 (by omega), show m - 30 = m % 10 by omega, v1]
      · rw [if_neg hlt, if_neg (show ¬ (10 ≤ m ∧ m ≤ 9 + rNl B j) from fun q => by have : m ≤ 9 + (B.2.2.2 j).2.1 := q.2; omega), if_neg (show ¬ (20 ≤ m ∧ m ≤ 19 + rNl B j) from fun q => by have : m ≤ 19 + (B.2.2.2 j).2.1 := q.2; omega), if_neg (show ¬ (30 ≤ m ∧ m ≤ 29 + rNl B j) from fun q => by have : m ≤ 29 + (B.2.2.2 j).2.1 := q.2; omega)]
    · have out : ∀ a b : Nat, 10 ≤ a → a < 1000 → b < 40 → ¬ isInB y (nI a) (nI b) = true := fun a b ha ha2 hb hh => by
        unfold isInB at hh
        simp only [Bool.and_eq_true, decide_eq_true_eq] at hh
        have p := Int32.le_iff_toInt_le.mp hh.1
        have q := Int32.le_iff_toInt_le.mp hh.2
        rw [nI_toInt (by omega)] at p q
        refine hr ⟨Int32.le_iff_toInt_le.mpr ?_, Int32.lt_iff_toInt_lt.mpr ?_⟩
        · have c : (10 : Int32).toInt = 10 := by decide
          omega
        · have c : (40 : Int32).toInt = 40 := by decide
          omega
      have hcond : ¬ (¬ y < 10 ∧ ¬ 40 ≤ y ∧ y - y / 10 * 10 < nI (B.2.2.2 j).2.1) := fun q => hr ⟨Int32.not_lt.mp q.1, Int32.not_le.mp q.2.1⟩
      have o10 : ¬ isInB y 10 (nI (9 + rNl B j)) = true := out 10 (9 + rNl B j) (by omega) (by omega) (by omega)
      have o20 : ¬ isInB y 20 (nI (19 + rNl B j)) = true := out 20 (19 + rNl B j) (by omega) (by omega) (by omega)
      have o30 : ¬ isInB y 30 (nI (29 + rNl B j)) = true := out 30 (29 + rNl B j) (by omega) (by omega) (by omega)
      unfold dJo1
      rw [if_neg o10, if_neg o20, if_neg o30, if_neg hcond, j1, j3]
      by_cases y0 : y = 0
      · rw [if_pos y0, if_pos y0]
      by_cases y1 : y = 1
      · rw [if_neg y0, if_neg y0, if_pos y1, if_pos y1]
      by_cases y2 : y = 2
      · rw [if_neg y0, if_neg y0, if_neg y1, if_neg y1, if_pos y2, if_pos y2]
      by_cases y3 : y = 3
      · rw [if_neg y0, if_neg y0, if_neg y1, if_neg y1, if_neg y2, if_neg y2, if_pos y3, if_pos y3]
      by_cases y4 : y = 4
      · rw [if_neg y0, if_neg y0, if_neg y1, if_neg y1, if_neg y2, if_neg y2, if_neg y3, if_neg y3, if_pos y4, if_pos y4]
      rw [if_neg y0, if_neg y0, if_neg y1, if_neg y1, if_neg y2, if_neg y2, if_neg y3, if_neg y3, if_neg y4, if_neg y4]
  · rw [if_neg hx, if_neg hx]
/-! sums over accounts and sums over lines -/
theorem isum_add (f g : Nat → Int32) : ∀ n, isum (fun i => f i + g i) n = isum f n + isum g n
  | 0 => rfl
  | n + 1 => by rw [isum, isum, isum, isum_add f g n]; grind
theorem isum_zero : ∀ n, isum (fun _ => 0) n = 0
  | 0 => rfl
  | n + 1 => by rw [isum, isum_zero n]; decide
theorem isum_swap (F : Nat → Nat → Int32) (q : Nat) : ∀ m, isum (fun a => isum (fun n => F a n) q) m = isum (fun n => isum (fun a => F a n) m) q
  | 0 => by simp only [isum]; exact (isum_zero q).symm
  | m + 1 => by
    rw [isum, isum_swap F q m, ← isum_add]
    exact isum_cg (fun n _ => rfl)
theorem isum_one (a0 : Nat) (v : Int32) : ∀ m, isum (fun a => if a = a0 then v else 0) m = if a0 < m then v else 0
  | 0 => by simp [isum]
  | m + 1 => by
    rw [isum, isum_one a0 v m]
    by_cases h : a0 < m
    · rw [if_pos h, if_neg (show ¬ m = a0 by omega), if_pos (show a0 < m + 1 by omega)]; grind
    · by_cases h2 : m = a0
      · rw [if_neg h, if_pos h2, if_pos (show a0 < m + 1 by omega)]; grind
      · rw [if_neg h, if_neg h2, if_neg (show ¬ a0 < m + 1 by omega)]; decide
/-- a journal's lines by the accounts that they name -/
theorem net_sum {B : BP} {N : Nat → Int32} (h : bRel B N) {j : Nat} (hj : j < B.2.1) (kd : Int32) : ∀ l, l ≤ (B.2.2.2 j).2.1 → isum (fun a => if N (2 + 4 * a) = kd then jNet (B.2.2.2 j) (nI a) l else 0) B.1 = isum (fun k => if bKind B ((B.2.2.2 j).2.2.2.2.2 0 k) = kd then (B.2.2.2 j).2.2.2.2.2 1 k else 0) l
  | 0, _ => by
    rw [isum_cg (g := fun _ => 0) (fun a _ => by simp [jNet])]
    exact isum_zero _
  | l + 1, hl => by
    obtain ⟨j1, j2, j3, j4, j5, j6, j7, j8⟩ := h.2.2.2.2 j hj
    obtain ⟨-, -, a0, ha0, e0⟩ := j5 l (by omega)
    rw [isum, ← net_sum h hj kd l (by omega), e0, (r_acc h ha0).1]
    have hstep : ∀ a, a < B.1 → (if N (2 + 4 * a) = kd then jNet (B.2.2.2 j) (nI a) (l + 1) else 0) = (if N (2 + 4 * a) = kd then jNet (B.2.2.2 j) (nI a) l else 0) + (if a = a0 then (if N (2 + 4 * a0) = kd then (B.2.2.2 j).2.2.2.2.2 1 l else 0) else 0) := by
      intro a ha
      have h12 := h.1.1
      rw [jNet, e0]
      have ee : (nI a0 = nI a) = (a = a0) := propext ⟨fun q => ((nI_eq (by omega) (by omega)).mp q).symm, fun q => by rw [q]⟩
      simp only [ee]
      by_cases ea : a = a0
      · subst ea
        rw [if_pos rfl, if_pos rfl]
        split
        · rfl
        · decide
      · rw [if_neg ea, if_neg ea, Int32.add_zero]
    rw [isum_cg hstep, isum_add, isum_one, if_pos ha0]
theorem r_cred {B : BP} {N : Nat → Int32} (h : bRel B N) (kd f t : Int32) : crF N (rNl B) B.2.1 kd f t B.1 = -dNk B kd f t := by
  have e1 : ∀ m, crF N (rNl B) B.2.1 kd f t m = -isum (fun a => if N (2 + 4 * a) = kd then mMv N (rNl B) (nI a) f t B.2.1 else 0) m := by
    intro m
    induction m with
    | zero => show (0 : Int32) = -0; decide
    | succ m ih =>
      rw [crF, isum, ih]
      split
      · grind
      · grind
  rw [e1]
  refine congrArg (fun z => -z) ?_
  have e2 : ∀ a, a < B.1 → (if N (2 + 4 * a) = kd then mMv N (rNl B) (nI a) f t B.2.1 else 0) = isum (fun n => if bCnt B n f t = true then (if N (2 + 4 * a) = kd then jNet (B.2.2.2 n) (nI a) (B.2.2.2 n).2.1 else 0) else 0) B.2.1 := by
    intro a ha
    rw [r_mv h (nI a) f t f t (fun j hj => r_cnt h hj f t) (Nat.le_refl _)]
    by_cases c : N (2 + 4 * a) = kd
    · rw [if_pos c]
      refine isum_cg (fun n hn => ?_)
      rw [if_pos c]
    · rw [if_neg c, isum_cg (g := fun _ => 0) (fun n hn => by rw [if_neg c]; split <;> rfl), isum_zero]
  rw [isum_cg e2, isum_swap]
  unfold dNk
  refine isum_cg (fun n hn => ?_)
  by_cases c : bCnt B n f t = true
  · rw [if_pos c]
    rw [← net_sum h hn kd _ (Nat.le_refl _)]
    refine isum_cg (fun a ha => ?_)
    rw [if_pos c]
  · rw [if_neg c, isum_cg (g := fun _ => 0) (fun a ha => by rw [if_neg c]), isum_zero]
theorem r_change {B : BP} {N : Nat → Int32} (h : bRel B N) (f t : Int32) : (if arP f t = true then -crF N (rNl B) B.2.1 0 f t B.1 else -100000000) = dCha B f t := by
  unfold dCha
  rw [arP_eq, r_cred h, show -(-dNk B 0 f t) = dNk B 0 f t by grind]
theorem r_indirect {B : BP} {N : Nat → Int32} (h : bRel B N) (f t x : Int32) : (if (arP f t && isInB x 0 3) = true then (if x = 1 then crF N (rNl B) B.2.1 2 f t B.1 else if x = 2 then crF N (rNl B) B.2.1 1 f t B.1 else if x = 3 then apF N (rNp B) (rCr B) (rDe B) (rMv B) f t B.2.1 else crF N (rNl B) B.2.1 2 f t B.1 + crF N (rNl B) B.2.1 1 f t B.1 + apF N (rNp B) (rCr B) (rDe B) (rMv B) f t B.2.1) else -100000000) = dInd B f t x := by
  unfold dInd
  rw [arP_eq, r_cred h, r_cred h, r_apart h]
  have hcond : ((dPs f t && isInB x 0 3) = true) = (dPs f t = true ∧ 0 ≤ x ∧ x ≤ 3) := by
    unfold isInB
    simp only [Bool.and_eq_true, decide_eq_true_eq]
  simp only [hcond]
