/-! 57: tokens: the same one at the same place -/
theorem skp_ge {t : Nat → Int32} {n : Nat} : ∀ {m p : Nat}, p ≤ skp t n m p
  | 0, p => Nat.le_refl _
  | m + 1, p => by
    unfold skp
    split
    · have := skp_ge (t := t) (n := n) (m := m) (p := p + 1); omega
    · exact Nat.le_refl _
theorem sk_skp {T : TP} {t : Nat → Int32} (h : tpR T t) : ∀ (m p : Nat), p + m = min T.1 600 → (sk T m p < min T.1 600 → skp t T.1 (T.1 - p) p = sk T m p ∧ ¬ (T.2 (sk T m p) = 32 ∨ T.2 (sk T m p) = 10)) ∧ (¬ sk T m p < min T.1 600 → min T.1 600 ≤ skp t T.1 (T.1 - p) p)
  | 0, p, hp => by
    refine ⟨fun q => ?_, fun _ => ?_⟩
    · have : sk T 0 p = p := rfl
      omega
    · have := skp_ge (t := t) (n := T.1) (m := T.1 - p) (p := p)
      omega
  | m + 1, p, hp => by
    have hb := h.2 p (by omega)
    have e1 := by_eq hb 32 (by decide) (by decide)
    have e2 := by_eq hb 10 (by decide) (by decide)
    rw [sk, show T.1 - p = (T.1 - (p + 1)) + 1 by omega, skp]
    by_cases c : T.2 p = 32 ∨ T.2 p = 10
    · rw [if_pos c, if_pos ⟨by omega, by rw [e1, e2]; exact c⟩]
      exact sk_skp h m (p + 1) (by omega)
    · rw [if_neg c, if_neg (fun q => c (by have := q.2; rw [e1, e2] at this; exact this))]
      exact ⟨fun _ => ⟨rfl, c⟩, fun q => by omega⟩
/-- the word of the first m letters -/
def wN (T : TP) (f : Nat) : Nat → Int64
  | 0 => 0
  | m + 1 => 27 * wN T f m + (T.2 (f + m)).toInt64 - 96
def rI (T : TP) (f : Nat) (lt : Bool) (p l d : Nat) (v : Int32) (g : Bool) (wd : Int64) (nu : Int32) : Prop :=
  p = f + l + d ∧ g = decide (if lt = true then d = 0 else l = 0) ∧ (d = 0 → wd = wN T f (min l 9) ∧ ∀ j, j < l → lcB (T.2 (f + j)) = true) ∧ (l = 0 → v = nu ∧ (d ≤ 5 → 0 ≤ v.toInt ∧ v.toInt < 10 ^ d)) ∧ (f < p → (lt = true → 0 < l) ∧ (lt = false → 0 < d))
theorem dg_rng {x : Int32} (h : dcB x = true) : 48 ≤ x.toInt ∧ x.toInt ≤ 57 := by
  have e1 : (48 : Int32).toInt = 48 := by decide
  have e2 : (57 : Int32).toInt = 57 := by decide
  unfold dcB at h
  simp only [Int32.lt_iff_toInt_lt, e1, e2, Bool.and_eq_true, Bool.not_eq_true', decide_eq_false_iff_not] at h
  omega
theorem lc_rng {x : Int32} (h : lcB x = true) : 97 ≤ x.toInt ∧ x.toInt ≤ 122 := by
  have e1 : (97 : Int32).toInt = 97 := by decide
  have e2 : (122 : Int32).toInt = 122 := by decide
  unfold lcB at h
  simp only [Int32.lt_iff_toInt_lt, e1, e2, Bool.and_eq_true, Bool.not_eq_true', decide_eq_false_iff_not] at h
  omega
theorem dg_step {v c : Int32} (h0 : 0 ≤ v.toInt) (h1 : v.toInt < 10000) (h2 : dcB c = true) : (10 * v + c - 48).toInt = 10 * v.toInt + c.toInt - 48 := by
  have hc := dg_rng h2
  have e1 : (10 : Int32).toInt = 10 := by decide
  have e2 : (48 : Int32).toInt = 48 := by decide
  rw [Int32.toInt_sub, Int32.toInt_add, Int32.toInt_mul, e1, e2, Int.bmod_eq_of_le (n := 10 * v.toInt) (by omega) (by omega), Int.bmod_eq_of_le (n := 10 * v.toInt + c.toInt) (by omega) (by omega), Int.bmod_eq_of_le (by omega) (by omega)]
theorem p10 {d : Nat} (h : d < 5) : (10 : Int) ^ d ≤ 10000 ∧ (10 : Int) ^ (d + 1) = 10 * 10 ^ d := by
  refine ⟨?_, by rw [Int.pow_succ]; omega⟩
  rcases (show d = 0 ∨ d = 1 ∨ d = 2 ∨ d = 3 ∨ d = 4 by omega) with rfl | rfl | rfl | rfl | rfl <;> decide
theorem run_eq {T : TP} {t : Nat → Int32} (h : tpR T t) {f : Nat} {lt : Bool} (hlt : f < T.1 → lt = lcB (T.2 f)) : ∀ (m p l d : Nat) (v : Int32) (g : Bool) (wd : Int64) (nu : Int32), p + m = T.1 → rI T f lt p l d v g wd nu →
    rI T f lt (rn t T.1 f lt (m + 1) p g wd nu).1 (rv T m p l d v).1 (rv T m p l d v).2.1 (rv T m p l d v).2.2 (rn t T.1 f lt (m + 1) p g wd nu).2.1 (rn t T.1 f lt (m + 1) p g wd nu).2.2.1 (rn t T.1 f lt (m + 1) p g wd nu).2.2.2 ∧ (0 < m → (lcB (T.2 p) = true ∨ dcB (T.2 p) = true) → p < (rn t T.1 f lt (m + 1) p g wd nu).1)
  | 0, p, l, d, v, g, wd, nu, hp, hI => by
    have e : rn t T.1 f lt (0 + 1) p g wd nu = (p, g, wd, nu) := by
      rw [rn, if_neg]
      rw [tA, if_neg (by omega)]
      decide
    rw [e]
    exact ⟨hI, fun q => absurd q (by omega)⟩
  | m + 1, p, l, d, v, g, wd, nu, hp, hI => by
    have hb := h.2 p (by omega)
    have hta : tA t T.1 p = t p := by rw [tA, if_pos (by omega)]
    obtain ⟨i1, i2, i3, i4, i5⟩ := id hI
    rw [rn, rv, hta, by_L hb, by_D hb]
    by_cases cl : lcB (T.2 p) = true
    · have hs := by_same hb (Or.inl cl)
      rw [if_pos (by simp [cl]), if_pos cl, hs]
      have hI' : rI T f lt (p + 1) (l + 1) d v (g && (lcB (T.2 p) == lt)) (if p - f < 9 then 27 * wd + (T.2 p).toInt64 - 96 else wd) (if p - f < 5 then 10 * nu + T.2 p - 48 else nu) := by
        refine ⟨by omega, ?_, fun d0 => ⟨?_, fun j hj => ?_⟩, fun q => absurd q (by omega), fun _ => ⟨fun _ => by omega, fun q => ?_⟩⟩
        · rw [cl, i2]
          cases lt <;> simp
        · obtain ⟨w1, w2⟩ := i3 d0
          have hpf : p - f = l := by omega
          rw [hpf]
          by_cases c9 : l < 9
          · rw [if_pos c9, w1, show min l 9 = l by omega, show min (l + 1) 9 = l + 1 by omega, wN, show f + l = p by omega]
          · rw [if_neg c9, w1, show min l 9 = 9 by omega, show min (l + 1) 9 = 9 by omega]
        · by_cases ej : j = l
          · subst ej
            rw [show f + j = p by omega]; exact cl
          · exact (i3 d0).2 j (by omega)
        · by_cases hf : f < p
          · exact (i5 hf).2 q
          · have : p = f := by omega
            subst this
            rw [hlt (by omega), cl] at q
            cases q
      obtain ⟨r1, r2⟩ := run_eq h hlt m (p + 1) (l + 1) d v (g && (lcB (T.2 p) == lt)) (if p - f < 9 then 27 * wd + (T.2 p).toInt64 - 96 else wd) (if p - f < 5 then 10 * nu + T.2 p - 48 else nu) (by omega) hI'
      refine ⟨r1, fun _ _ => ?_⟩
      have := (rn_le (t := t) (n := T.1) (f := f) (lt := lt) (m := m + 1) (p := p + 1) (g := g && (lcB (T.2 p) == lt)) (wd := if p - f < 9 then 27 * wd + (T.2 p).toInt64 - 96 else wd) (nu := if p - f < 5 then 10 * nu + T.2 p - 48 else nu) (by omega)).1
      omega
    · by_cases cd : dcB (T.2 p) = true
      · have hs := by_same hb (Or.inr cd)
        rw [if_pos (by simp [cd]), if_neg cl, if_pos cd, hs]
        have cl' : lcB (T.2 p) = false := by cases e : lcB (T.2 p) <;> simp_all
        have hI' : rI T f lt (p + 1) l (d + 1) (if d + 1 ≤ 5 then 10 * v + T.2 p - 48 else v) (g && (lcB (T.2 p) == lt)) (if p - f < 9 then 27 * wd + (T.2 p).toInt64 - 96 else wd) (if p - f < 5 then 10 * nu + T.2 p - 48 else nu) := by
          refine ⟨by omega, ?_, fun q => absurd q (by omega), fun l0 => ⟨?_, fun d5 => ?_⟩, fun _ => ⟨fun q => ?_, fun _ => by omega⟩⟩
          · rw [cl', i2]
            cases lt <;> simp
          · obtain ⟨n1, n2⟩ := i4 l0
            have hpf : p - f = d := by omega
            rw [hpf, n1]
            by_cases c5 : d < 5
            · rw [if_pos (by omega), if_pos c5]
            · rw [if_neg (by omega), if_neg c5]
          · obtain ⟨n1, n2⟩ := i4 l0
            obtain ⟨b1, b2⟩ := n2 (by omega)
            obtain ⟨q1, q2⟩ := @p10 d (by omega)
            rw [if_pos d5, dg_step b1 (by omega) cd, q2]
            have := dg_rng cd
            omega
          · by_cases hf : f < p
            · exact (i5 hf).1 q
            · have : p = f := by omega
              subst this
              rw [hlt (by omega), cl'] at q
              cases q
        obtain ⟨r1, r2⟩ := run_eq h hlt m (p + 1) l (d + 1) (if d + 1 ≤ 5 then 10 * v + T.2 p - 48 else v) (g && (lcB (T.2 p) == lt)) (if p - f < 9 then 27 * wd + (T.2 p).toInt64 - 96 else wd) (if p - f < 5 then 10 * nu + T.2 p - 48 else nu) (by omega) hI'
        refine ⟨r1, fun _ _ => ?_⟩
        have := (rn_le (t := t) (n := T.1) (f := f) (lt := lt) (m := m + 1) (p := p + 1) (g := g && (lcB (T.2 p) == lt)) (wd := if p - f < 9 then 27 * wd + (T.2 p).toInt64 - 96 else wd) (nu := if p - f < 5 then 10 * nu + T.2 p - 48 else nu) (by omega)).1
        omega
      · rw [if_neg (by simp [cl, cd]), if_neg cl, if_neg cd]
        exact ⟨hI, fun _ q => absurd q (by simp [cl, cd])⟩
/-- the class's token and the reference's -/
def tkR (T : TP) (P : RP) (M : MP) : Prop := P.2.1 = M.2.1 ∧
  ((P.1 = 0 ∧ ((T.1 ≤ 600 ∧ M.2.2.1 = 0) ∨ (600 < T.1 ∧ M.2.2.1 = 1))) ∨ (P.1 = 1 ∧ M.2.2.1 = 1) ∨
   (P.1 = 2 ∧ M.2.2.1 = 2 ∧ M.1 = P.2.2.1 ∧ ∃ l, 0 < l ∧ P.2.2.1 = P.2.1 + l ∧ M.2.2.2.2.2.2.1 = wN T P.2.1 (min l 9) ∧ ∀ j, j < l → lcB (T.2 (P.2.1 + j)) = true) ∨
   (P.1 = 3 ∧ M.2.2.1 = 3 ∧ M.1 = P.2.2.1 ∧ P.2.2.2.1 = M.2.2.2.1 ∧ 0 ≤ P.2.2.2.1.toInt ∧ P.2.2.2.1.toInt < 100000) ∨
   (P.1 = 4 ∧ M.2.2.1 = 4 ∧ M.1 = P.2.2.1 ∧ M.2.2.2.2.2.2.1 = 59) ∨ (P.1 = 5 ∧ M.2.2.1 = 4 ∧ M.1 = P.2.2.1 ∧ M.2.2.2.2.2.2.1 = 45))
theorem step_eq {T : TP} {t : Nat → Int32} (h : tpR T t) {P : RP} {M : MP} (hp : P.2.2.1 = M.1) (hn : P.2.2.1 ≤ T.1) : tkR T (stR T P) (mGo t T.1 M) := by
  have hbound := h.1
  unfold stR stE mGo goR
  rw [← hp]
  by_cases hL : P.2.2.1 ≤ min T.1 600
  · obtain ⟨s1, s2⟩ := sk_skp h (min T.1 600 - P.2.2.1) P.2.2.1 (by omega)
    generalize hq : sk T (min T.1 600 - P.2.2.1) P.2.2.1 = q at s1 s2
    by_cases c : q < min T.1 600
    · obtain ⟨e, hws⟩ := s1 c
      rw [e, if_pos c]
      have hqn : q < T.1 := by omega
      have hb := h.2 q hqn
      unfold goS
      rw [if_neg (show ¬ (600 < T.1 ∧ 600 ≤ q) by omega), if_neg (show ¬ T.1 ≤ q by omega), by_L hb, by_D hb]
      by_cases c59 : T.2 q = 59
      · rw [if_pos c59, if_neg (by rw [c59]; decide)]
        have e59 : t q = 59 := by rw [by_eq hb 59 (by decide) (by decide)]; exact c59
        refine ⟨rfl, Or.inr (Or.inr (Or.inr (Or.inr (Or.inl ⟨rfl, ?_, rfl, ?_⟩))))⟩
        · show (if t q = 59 ∨ t q = 45 then 4 else 1) = 4
          rw [if_pos (Or.inl e59)]
        · show (t q).toInt64 = 59
          rw [e59]; decide
      · rw [if_neg c59]
        by_cases c45 : T.2 q = 45
        · rw [if_pos c45, if_neg (by rw [c45]; decide)]
          have e45 : t q = 45 := by rw [by_eq hb 45 (by decide) (by decide)]; exact c45
          refine ⟨rfl, Or.inr (Or.inr (Or.inr (Or.inr (Or.inr ⟨rfl, ?_, rfl, ?_⟩))))⟩
          · show (if t q = 59 ∨ t q = 45 then 4 else 1) = 4
            rw [if_pos (Or.inr e45)]
          · show (t q).toInt64 = 45
            rw [e45]; decide
        · rw [if_neg c45]
          by_cases ca : lcB (T.2 q) = true ∨ dcB (T.2 q) = true
          · rw [if_pos (by simpa using ca)]
            obtain ⟨r1, r2⟩ := run_eq h (f := q) (lt := isL (t q)) (fun _ => by_L hb) (T.1 - q) q 0 0 0 true 0 0 (by omega) ⟨by omega, by cases isL (t q) <;> rfl, fun _ => ⟨rfl, fun j hj => absurd hj (by omega)⟩, fun _ => ⟨rfl, fun _ => ⟨by decide, by decide⟩⟩, fun z => absurd z (by omega)⟩
            have hpos := r2 (by omega) ca
            have hrn : rnA t T.1 q = rn t T.1 q (isL (t q)) (T.1 - q + 1) q true 0 0 := by
              show rn t T.1 q (isL (t q)) (T.1 + 1 - q) q true 0 0 = _
              rw [show T.1 + 1 - q = T.1 - q + 1 by omega]
            rw [hrn]
            generalize rn t T.1 q (isL (t q)) (T.1 - q + 1) q true 0 0 = R at r1 hpos
            generalize rv T (T.1 - q) q 0 0 0 = V at r1
            obtain ⟨i1, i2, i3, i4, i5⟩ := r1
            obtain ⟨j1, j2⟩ := i5 hpos
            have hlen : R.1 - q = V.1 + V.2.1 := by omega
            unfold srE soR
            rw [← by_L hb]
            by_cases hw : V.2.1 = 0 ∧ 0 < V.1
            · have hlt : isL (t q) = true := by
                cases e : isL (t q) with
                | true => rfl
                | false => have := j2 e; omega
              have hg : R.2.1 = true := by rw [i2, hlt]; simp [hw.1]
              refine ⟨rfl, Or.inr (Or.inr (Or.inl ⟨?_, ?_, ?_, V.1, hw.2, ?_, ?_, (i3 hw.1).2⟩))⟩
              · show (if _ then 2 else _) = 2
                rw [if_pos hw]
              · show (if (!R.2.1 || (!isL (t q) && decide (5 < R.1 - q))) = true then 1 else if isL (t q) = true then 2 else 3) = 2
                rw [hg, hlt]; rfl
              · show R.1 = q + max (V.1 + V.2.1) 1
                omega
              · show q + max (V.1 + V.2.1) 1 = q + V.1
                omega
              · exact (i3 hw.1).1
            · by_cases hnum : V.1 = 0 ∧ 0 < V.2.1 ∧ V.2.1 ≤ 5
              · have hlt : isL (t q) = false := by
                  cases e : isL (t q) with
                  | false => rfl
                  | true => have := j1 e; omega
                have hg : R.2.1 = true := by rw [i2, hlt]; simp [hnum.1]
                obtain ⟨v1, v2⟩ := i4 hnum.1
                obtain ⟨v3, v4⟩ := v2 hnum.2.2
                refine ⟨rfl, Or.inr (Or.inr (Or.inr (Or.inl ⟨?_, ?_, ?_, v1, v3, ?_⟩)))⟩
                · show (if _ then 2 else if _ then 3 else 1) = 3
                  rw [if_neg hw, if_pos hnum]
                · show (if (!R.2.1 || (!isL (t q) && decide (5 < R.1 - q))) = true then 1 else if isL (t q) = true then 2 else 3) = 3
                  rw [hg, hlt, if_neg (by simp; omega)]; rfl
                · show R.1 = q + max (V.1 + V.2.1) 1
                  omega
                · show V.2.2.toInt < 100000
                  have : (10 : Int) ^ V.2.1 ≤ 100000 := by
                    rcases (show V.2.1 = 1 ∨ V.2.1 = 2 ∨ V.2.1 = 3 ∨ V.2.1 = 4 ∨ V.2.1 = 5 by omega) with e | e | e | e | e <;> rw [e] <;> decide
                  omega
              · refine ⟨rfl, Or.inr (Or.inl ⟨?_, ?_⟩)⟩
                · show (if _ then 2 else if _ then 3 else 1) = 1
                  rw [if_neg hw, if_neg hnum]
                · show (if (!R.2.1 || (!isL (t q) && decide (5 < R.1 - q))) = true then 1 else if isL (t q) = true then 2 else 3) = 1
                  rw [if_pos]
                  rw [i2]
                  cases e : isL (t q) with
                  | true =>
                    have := j1 e
                    simp only [if_true]
                    simp
                    omega
                  | false =>
                    have := j2 e
                    simp
                    omega
          · rw [if_neg (by simpa using ca)]
            have hv : rv T (T.1 - q) q 0 0 0 = (0, 0, 0) := by
              rw [show T.1 - q = (T.1 - q - 1) + 1 by omega, rv, if_neg (fun z => ca (Or.inl z)), if_neg (fun z => ca (Or.inr z))]
            rw [hv]
            refine ⟨rfl, Or.inr (Or.inl ⟨rfl, ?_⟩)⟩
            show (if t q = 59 ∨ t q = 45 then 4 else 1) = 1
            rw [if_neg (by rw [by_eq hb 59 (by decide) (by decide), by_eq hb 45 (by decide) (by decide)]; simp [c59, c45])]
    · rw [if_neg c]
      have hge := s2 c
      have hle := (skp_le (t := t) (n := T.1) (m := T.1 - P.2.2.1) (p := P.2.2.1) hn).2
      generalize skp t T.1 (T.1 - P.2.2.1) P.2.2.1 = F at hge hle
      unfold goS
      by_cases c6 : 600 < T.1
      · rw [if_pos ⟨c6, by omega⟩]
        exact ⟨by show min T.1 600 = 600; omega, Or.inl ⟨rfl, Or.inr ⟨c6, rfl⟩⟩⟩
      · rw [if_neg (fun z => c6 z.1), if_pos (by omega)]
        exact ⟨by show min T.1 600 = F; omega, Or.inl ⟨rfl, Or.inl ⟨by omega, rfl⟩⟩⟩
  · have hk : sk T (min T.1 600 - P.2.2.1) P.2.2.1 = P.2.2.1 := by rw [show min T.1 600 - P.2.2.1 = 0 by omega]; rfl
    rw [hk, if_neg (by omega)]
    have hge := skp_ge (t := t) (n := T.1) (m := T.1 - P.2.2.1) (p := P.2.2.1)
    generalize skp t T.1 (T.1 - P.2.2.1) P.2.2.1 = F at hge
    unfold goS
    rw [if_pos ⟨by omega, by omega⟩]
    exact ⟨by show min T.1 600 = 600; omega, Or.inl ⟨rfl, Or.inr ⟨by omega, rfl⟩⟩⟩
