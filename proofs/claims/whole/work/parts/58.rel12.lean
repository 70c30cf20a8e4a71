/-! 58: words -/
def nV (c : Nat → Nat) : Nat → Nat
  | 0 => 0
  | m + 1 => 27 * nV c m + c m
theorem nV_inj {c k : Nat → Nat} : ∀ {m L : Nat}, (∀ j, j < m → 1 ≤ c j ∧ c j ≤ 26) → (∀ j, j < L → 1 ≤ k j ∧ k j ≤ 26) → nV c m = nV k L → m = L ∧ ∀ j, j < m → c j = k j
  | 0, 0, _, _, _ => ⟨rfl, fun j hj => absurd hj (Nat.not_lt_zero j)⟩
  | 0, L + 1, _, hk, e => by
    have := hk L (by omega)
    rw [nV, nV] at e
    omega
  | m + 1, 0, hc, _, e => by
    have := hc m (by omega)
    rw [nV, nV] at e
    omega
  | m + 1, L + 1, hc, hk, e => by
    have h1 := hc m (by omega)
    have h2 := hk L (by omega)
    rw [nV, nV] at e
    obtain ⟨e1, e2⟩ := nV_inj (c := c) (k := k) (m := m) (L := L) (fun j hj => hc j (by omega)) (fun j hj => hk j (by omega)) (by omega)
    subst e1
    refine ⟨rfl, fun j hj => ?_⟩
    by_cases ej : j = m
    · subst ej; omega
    · exact e2 j (by omega)
theorem nV_cg {c k : Nat → Nat} : ∀ {m : Nat}, (∀ j, j < m → c j = k j) → nV c m = nV k m
  | 0, _ => rfl
  | m + 1, h => by rw [nV, nV, nV_cg (m := m) (fun j hj => h j (by omega)), h m (by omega)]
theorem nV_lt {c : Nat → Nat} : ∀ {m : Nat}, (∀ j, j < m → 1 ≤ c j ∧ c j ≤ 26) → nV c m < 27 ^ m
  | 0, _ => by show 0 < 1; omega
  | m + 1, h => by
    have h1 := h m (by omega)
    have h2 := nV_lt (c := c) (m := m) (fun j hj => h j (by omega))
    rw [nV, Nat.pow_succ]
    omega
theorem nV_63 {c : Nat → Nat} {m : Nat} (hm : m ≤ 9) (h : ∀ j, j < m → 1 ≤ c j ∧ c j ≤ 26) : nV c m < 2 ^ 63 := by
  have h1 := nV_lt h
  have h2 : 27 ^ m ≤ 27 ^ 9 := Nat.pow_le_pow_right (by omega) hm
  have h3 : 27 ^ 9 < 2 ^ 63 := by decide
  omega
theorem o64_inj {a b : Nat} (ha : a < 2 ^ 63) (hb : b < 2 ^ 63) (h : Int64.ofNat a = Int64.ofNat b) : a = b := by
  have e := congrArg (fun z => z.toBitVec.toNat) h
  have e' : a % 2 ^ 64 = b % 2 ^ 64 := e
  omega
theorem nI_64 {k : Nat} (h : k < 2147483648) : (nI k).toInt64 = Int64.ofNat k := by
  refine Int64.toInt_inj.mp ?_
  rw [Int32.toInt_toInt64, nI_toInt h, Int64.toInt_ofNat_of_lt (by omega)]
def cOf (T : TP) (f j : Nat) : Nat := (T.2 (f + j)).toInt.toNat - 96
theorem cOf_at {T : TP} {f j : Nat} (h : lcB (T.2 (f + j)) = true) : 1 ≤ cOf T f j ∧ cOf T f j ≤ 26 ∧ T.2 (f + j) = nI (cOf T f j + 96) := by
  have hr := lc_rng h
  unfold cOf
  refine ⟨by omega, by omega, Int32.toInt_inj.mp ?_⟩
  rw [nI_toInt (by omega)]
  omega
theorem wN_eq {T : TP} {f : Nat} : ∀ {m : Nat}, (∀ j, j < m → lcB (T.2 (f + j)) = true) → wN T f m = Int64.ofNat (nV (cOf T f) m)
  | 0, _ => rfl
  | m + 1, h => by
    obtain ⟨h1, h2, h3⟩ := cOf_at (h m (by omega))
    rw [wN, nV, wN_eq (m := m) (fun j hj => h j (by omega)), h3, nI_64 (by omega), Int64.ofNat_add, Int64.ofNat_add, Int64.ofNat_mul]
    have e1 : Int64.ofNat 27 = 27 := rfl
    have e2 : Int64.ofNat 96 = 96 := rfl
    rw [e1, e2]
    grind
def kW : Nat → Int64
  | 0 => four 99 97 115 104
  | 1 => four 119 111 114 107
  | 2 => 729 * four 105 110 99 111 + two 109 101
  | 3 => 729 * four 105 110 118 101 + two 115 116
  | 4 => seven 102 105 110 97 110 99 101
  | 5 => 27 * seven 99 117 114 114 101 110 99 + 25
  | 6 => wAcc
  | _ => wJou
def kcN (i j : Nat) : Nat := (sch i j).toInt.toNat - 96
theorem kw_at : ∀ i : Nat, i < 8 → kW i = Int64.ofNat (nV (kcN i) (vLen.getD i 0)) ∧ vLen.getD i 0 ≤ 8 ∧ 1 ≤ vLen.getD i 0 ∧ ∀ j, j < vLen.getD i 0 → 1 ≤ kcN i j ∧ kcN i j ≤ 26 ∧ sch i j = nI (kcN i j + 96) := by decide +kernel
theorem wd_eq {T : TP} {P : RP} {M : MP} (h : tkR T P M) {i : Nat} (hi : i < 8) : wdB T P i = mWd (kW i) M := by
  unfold wdB mWd
  obtain ⟨k1, k2, k3, k4⟩ := kw_at i hi
  rcases h.2 with ⟨e, q⟩ | ⟨e, q⟩ | ⟨e, q, -, l, l0, hl, hw, hc⟩ | ⟨e, q, -⟩ | ⟨e, q, -⟩ | ⟨e, q, -⟩
  · rw [e]
    rcases q with ⟨-, q⟩ | ⟨-, q⟩ <;> rw [q] <;> rfl
  · rw [e, q]; rfl
  · rw [e, q, hw, k1, show P.2.2.1 - P.2.1 = l by omega]
    have hc' : ∀ j, j < min l 9 → lcB (T.2 (P.2.1 + j)) = true := fun j hj => hc j (by omega)
    rw [wN_eq hc']
    have hd : ∀ j, j < min l 9 → 1 ≤ cOf T P.2.1 j ∧ cOf T P.2.1 j ≤ 26 := fun j hj => ⟨(cOf_at (hc' j hj)).1, (cOf_at (hc' j hj)).2.1⟩
    have hk : ∀ j, j < vLen.getD i 0 → 1 ≤ kcN i j ∧ kcN i j ≤ 26 := fun j hj => ⟨(k4 j hj).1, (k4 j hj).2.1⟩
    have main : (Int64.ofNat (nV (cOf T P.2.1) (min l 9)) = Int64.ofNat (nV (kcN i) (vLen.getD i 0))) ↔ (l = vLen.getD i 0 ∧ ∀ j, j < vLen.getD i 0 → T.2 (P.2.1 + j) = sch i j) := by
      refine ⟨fun z => ?_, fun z => ?_⟩
      · obtain ⟨a, b⟩ := nV_inj hd hk (o64_inj (nV_63 (by omega) hd) (nV_63 (by omega) hk) z)
        refine ⟨by omega, fun j hj => ?_⟩
        rw [(cOf_at (hc' j (by omega))).2.2, b j (by omega), (k4 j hj).2.2]
      · obtain ⟨a, b⟩ := z
        rw [show min l 9 = l by omega, a]
        refine congrArg Int64.ofNat (nV_cg (fun j hj => ?_))
        have e3 := b j hj
        unfold cOf kcN
        rw [e3]
    rw [decide_eq_decide.mpr main, Bool.decide_and]
  · rw [e, q]; rfl
  · rw [e, q]; rfl
  · rw [e, q]; rfl
theorem kd_eq {T : TP} {P : RP} {M : MP} (h : tkR T P M) : kdF T P 6 0 = mKd M := by
  unfold mKd
  have e := fun i hi => wd_eq h (i := i) hi
  have e0 : mWd (four 99 97 115 104) M = wdB T P 0 := (e 0 (by omega)).symm
  have e1 : mWd (four 119 111 114 107) M = wdB T P 1 := (e 1 (by omega)).symm
  have e2 : mWd (729 * four 105 110 99 111 + two 109 101) M = wdB T P 2 := (e 2 (by omega)).symm
  have e3 : mWd (729 * four 105 110 118 101 + two 115 116) M = wdB T P 3 := (e 3 (by omega)).symm
  have e4 : mWd (seven 102 105 110 97 110 99 101) M = wdB T P 4 := (e 4 (by omega)).symm
  have e5 : mWd (27 * seven 99 117 114 114 101 110 99 + 25) M = wdB T P 5 := (e 5 (by omega)).symm
  rw [e0, e1, e2, e3, e4, e5]
  simp only [kdF]
  rfl
