/-! 56: the tape: signed bytes in the class, 0 to 255 in the reference -/
def byR (a b : Int32) : Prop := (0 ≤ a.toInt ∧ a.toInt < 128 ∧ b = a) ∨ (a.toInt < 0 ∧ 128 ≤ b.toInt)
theorem and255 (v : BitVec 32) : (v &&& 255#32).toNat = v.toNat % 256 := by
  rw [BitVec.toNat_and]
  exact Nat.and_two_pow_sub_one_eq_mod v.toNat 8
theorem mB_nat (x sh : Int32) (k : Nat) (h : (x.toUInt32 >>> (sh.toUInt32 &&& Int32.toUInt32 31)).toBitVec.toNat = x.toUInt32.toNat / 2 ^ k) : (mB x sh).toInt = (((x.toUInt32.toNat / 2 ^ k) % 256 : Nat) : Int) := by
  have e : (mB x sh).toBitVec = (x.toUInt32 >>> (sh.toUInt32 &&& Int32.toUInt32 31)).toBitVec &&& 255#32 := rfl
  show (mB x sh).toBitVec.toInt = _
  rw [e, BitVec.toInt_eq_toNat_of_lt (by rw [and255]; omega), and255, h]
theorem tB_int (x sh : Int32) (k : Nat) (h : (x >>> (sh &&& 31)).toInt = x.toInt / 2 ^ k) : (tB x sh).toInt = (x.toInt / 2 ^ k).bmod 256 := by
  have e : tB x sh = ((x >>> (sh &&& 31)).toInt8.toInt32).toInt8.toInt32 := rfl
  rw [e, Int8.toInt_toInt32, Int32.toInt_toInt8, Int8.toInt_toInt32, Int32.toInt_toInt8, h, Int.bmod_bmod]
theorem u_of (x : Int32) : x.toInt = (if x.toUInt32.toNat < 2147483648 then (x.toUInt32.toNat : Int) else x.toUInt32.toNat - 4294967296) ∧ x.toUInt32.toNat < 4294967296 := by
  refine ⟨?_, x.toUInt32.toBitVec.isLt⟩
  show x.toBitVec.toInt = _
  rw [BitVec.toInt_eq_toNat_cond]
  have e : x.toBitVec.toNat = x.toUInt32.toNat := rfl
  rw [e]
  by_cases c : x.toUInt32.toNat < 2147483648
  · rw [if_pos (by omega), if_pos c]
  · rw [if_neg (by omega), if_neg c]
    rfl
theorem by_24 (x : Int32) : byR (tB x 24) (mB x 24) := by
  have h1 := tB_int x 24 24 (by
    show (x.toBitVec.sshiftRight 24).toInt = _
    rw [BitVec.toInt_sshiftRight, Int.shiftRight_eq_div_pow]
    rfl)
  have h2 := mB_nat x 24 24 (by
    show (x.toUInt32.toBitVec >>> 24).toNat = _
    rw [BitVec.toNat_ushiftRight, Nat.shiftRight_eq_div_pow]
    rfl)
  obtain ⟨u1, u2⟩ := u_of x
  have e2 : (2 : Int) ^ 24 = 16777216 := by decide
  have e3 : (2 : Nat) ^ 24 = 16777216 := by decide
  rw [e2] at h1
  rw [e3] at h2
  simp only [Int.bmod] at h1
  by_cases c : (x.toUInt32.toNat / 16777216) % 256 < 128
  · left
    have e : (tB x 24).toInt = (((x.toUInt32.toNat / 16777216) % 256 : Nat) : Int) := by
      rw [h1, u1]
      split <;> split <;> omega
    exact ⟨by omega, by omega, Int32.toInt_inj.mp (by rw [h2, e])⟩
  · right
    have e : (tB x 24).toInt < 0 := by
      rw [h1, u1]
      split <;> split <;> omega
    exact ⟨e, by rw [h2]; omega⟩
theorem by_16 (x : Int32) : byR (tB x 16) (mB x 16) := by
  have h1 := tB_int x 16 16 (by
    show (x.toBitVec.sshiftRight 16).toInt = _
    rw [BitVec.toInt_sshiftRight, Int.shiftRight_eq_div_pow]
    rfl)
  have h2 := mB_nat x 16 16 (by
    show (x.toUInt32.toBitVec >>> 16).toNat = _
    rw [BitVec.toNat_ushiftRight, Nat.shiftRight_eq_div_pow]
    rfl)
  obtain ⟨u1, u2⟩ := u_of x
  have e2 : (2 : Int) ^ 16 = 65536 := by decide
  have e3 : (2 : Nat) ^ 16 = 65536 := by decide
  rw [e2] at h1
  rw [e3] at h2
  simp only [Int.bmod] at h1
  by_cases c : (x.toUInt32.toNat / 65536) % 256 < 128
  · left
    have e : (tB x 16).toInt = (((x.toUInt32.toNat / 65536) % 256 : Nat) : Int) := by
      rw [h1, u1]
      split <;> split <;> omega
    exact ⟨by omega, by omega, Int32.toInt_inj.mp (by rw [h2, e])⟩
  · right
    have e : (tB x 16).toInt < 0 := by
      rw [h1, u1]
      split <;> split <;> omega
    exact ⟨e, by rw [h2]; omega⟩
theorem by_8 (x : Int32) : byR (tB x 8) (mB x 8) := by
  have h1 := tB_int x 8 8 (by
    show (x.toBitVec.sshiftRight 8).toInt = _
    rw [BitVec.toInt_sshiftRight, Int.shiftRight_eq_div_pow]
    rfl)
  have h2 := mB_nat x 8 8 (by
    show (x.toUInt32.toBitVec >>> 8).toNat = _
    rw [BitVec.toNat_ushiftRight, Nat.shiftRight_eq_div_pow]
    rfl)
  obtain ⟨u1, u2⟩ := u_of x
  have e2 : (2 : Int) ^ 8 = 256 := by decide
  have e3 : (2 : Nat) ^ 8 = 256 := by decide
  rw [e2] at h1
  rw [e3] at h2
  simp only [Int.bmod] at h1
  by_cases c : (x.toUInt32.toNat / 256) % 256 < 128
  · left
    have e : (tB x 8).toInt = (((x.toUInt32.toNat / 256) % 256 : Nat) : Int) := by
      rw [h1, u1]
      split <;> split <;> omega
    exact ⟨by omega, by omega, Int32.toInt_inj.mp (by rw [h2, e])⟩
  · right
    have e : (tB x 8).toInt < 0 := by
      rw [h1, u1]
      split <;> split <;> omega
    exact ⟨e, by rw [h2]; omega⟩
theorem by_0 (x : Int32) : byR (tB x 0) (mB x 0) := by
  have h1 := tB_int x 0 0 (by
    show (x.toBitVec.sshiftRight 0).toInt = _
    rw [BitVec.toInt_sshiftRight, Int.shiftRight_eq_div_pow]
    rfl)
  have h2 := mB_nat x 0 0 (by
    show (x.toUInt32.toBitVec >>> 0).toNat = _
    rw [BitVec.toNat_ushiftRight, Nat.shiftRight_eq_div_pow]
    rfl)
  obtain ⟨u1, u2⟩ := u_of x
  have e2 : (2 : Int) ^ 0 = 1 := by decide
  have e3 : (2 : Nat) ^ 0 = 1 := by decide
  rw [e2] at h1
  rw [e3] at h2
  simp only [Int.bmod] at h1
  by_cases c : (x.toUInt32.toNat / 1) % 256 < 128
  · left
    have e : (tB x 0).toInt = (((x.toUInt32.toNat / 1) % 256 : Nat) : Int) := by
      rw [h1, u1]
      split <;> split <;> omega
    exact ⟨by omega, by omega, Int32.toInt_inj.mp (by rw [h2, e])⟩
  · right
    have e : (tB x 0).toInt < 0 := by
      rw [h1, u1]
      split <;> split <;> omega
    exact ⟨e, by rw [h2]; omega⟩
def tpR (T : TP) (t : Nat → Int32) : Prop := T.1 ≤ 640 ∧ ∀ k, k < T.1 → byR (T.2 k) (t k)
theorem tpR_app {T : TP} {t : Nat → Int32} (h : tpR T t) (hT : T.1 + 4 ≤ 640) (x : Int32) : tpR (tApp T x) (mLay t T.1 x) := by
  refine ⟨by show T.1 + 1 + 1 + 1 + 1 ≤ 640; omega, fun k hk => ?_⟩
  have hk' : k < T.1 + 1 + 1 + 1 + 1 := hk
  show byR (upd (upd (upd (upd T.2 T.1 (tB x 24)) (T.1 + 1) (tB x 16)) (T.1 + 1 + 1) (tB x 8)) (T.1 + 1 + 1 + 1) (tB x 0) k) (upd (upd (upd (upd t T.1 (mB x 24)) (T.1 + 1) (mB x 16)) (T.1 + 1 + 1) (mB x 8)) (T.1 + 1 + 1 + 1) (mB x 0) k)
  by_cases c3 : k = T.1 + 1 + 1 + 1
  · subst c3; rw [upd_s, upd_s]; exact by_0 x
  rw [upd_n c3, upd_n c3]
  by_cases c2 : k = T.1 + 1 + 1
  · subst c2; rw [upd_s, upd_s]; exact by_8 x
  rw [upd_n c2, upd_n c2]
  by_cases c1 : k = T.1 + 1
  · subst c1; rw [upd_s, upd_s]; exact by_16 x
  rw [upd_n c1, upd_n c1]
  by_cases c0 : k = T.1
  · subst c0; rw [upd_s, upd_s]; exact by_24 x
  rw [upd_n c0, upd_n c0]
  exact h.2 k (by omega)
theorem tpR_feed {T : TP} {t : Nat → Int32} (h : tpR T t) (hT : T.1 + 20 ≤ 640) (x y z u v : Int32) : tpR (tApp (tApp (tApp (tApp (tApp T x) y) z) u) v) (mFd t T.1 x y z u v) := by
  have h1 := tpR_app h (by omega) x
  have h2 := tpR_app h1 (by show T.1 + 1 + 1 + 1 + 1 + 4 ≤ 640; omega) y
  have h3 := tpR_app h2 (by show T.1 + 1 + 1 + 1 + 1 + 1 + 1 + 1 + 1 + 4 ≤ 640; omega) z
  have h4 := tpR_app h3 (by show T.1 + 1 + 1 + 1 + 1 + 1 + 1 + 1 + 1 + 1 + 1 + 1 + 1 + 4 ≤ 640; omega) u
  exact tpR_app h4 (by show T.1 + 1 + 1 + 1 + 1 + 1 + 1 + 1 + 1 + 1 + 1 + 1 + 1 + 1 + 1 + 1 + 1 + 4 ≤ 640; omega) v
theorem tpR_end {T : TP} {t : Nat → Int32} (h : tpR T t) {n : Nat} (hn : n ≤ T.1) : tpR (n, T.2) t := ⟨by have := h.1; show n ≤ 640; omega, fun k hk => h.2 k (by have : k < n := hk; omega)⟩
/-! which signs they are -/
theorem by_eq {a b : Int32} (h : byR a b) (c : Int32) (h0 : 0 ≤ c.toInt) (h1 : c.toInt < 128) : (b = c) = (a = c) := by
  rcases h with ⟨p, q, r⟩ | ⟨p, q⟩
  · rw [r]
  · refine propext ⟨fun e => ?_, fun e => ?_⟩
    · rw [e] at q; omega
    · rw [e] at p; omega
theorem by_L {a b : Int32} (h : byR a b) : isL b = lcB a := by
  have e1 : (97 : Int32).toInt = 97 := by decide
  have e2 : (122 : Int32).toInt = 122 := by decide
  unfold isL isInB lcB
  simp only [Int32.lt_iff_toInt_lt, Int32.le_iff_toInt_le, e1, e2]
  rw [Bool.eq_iff_iff]
  simp only [Bool.and_eq_true, decide_eq_true_eq, Bool.not_eq_true', decide_eq_false_iff_not]
  rcases h with ⟨p, q, r⟩ | ⟨p, q⟩
  · rw [r]; omega
  · omega
theorem by_D {a b : Int32} (h : byR a b) : isD b = dcB a := by
  have e1 : (48 : Int32).toInt = 48 := by decide
  have e2 : (57 : Int32).toInt = 57 := by decide
  unfold isD isInB dcB
  simp only [Int32.lt_iff_toInt_lt, Int32.le_iff_toInt_le, e1, e2]
  rw [Bool.eq_iff_iff]
  simp only [Bool.and_eq_true, decide_eq_true_eq, Bool.not_eq_true', decide_eq_false_iff_not]
  rcases h with ⟨p, q, r⟩ | ⟨p, q⟩
  · rw [r]; omega
  · omega
theorem by_same {a b : Int32} (h : byR a b) (hl : lcB a = true ∨ dcB a = true) : b = a := by
  rcases h with ⟨p, q, r⟩ | ⟨p, q⟩
  · exact r
  · exfalso
    have e1 : (97 : Int32).toInt = 97 := by decide
    have e2 : (48 : Int32).toInt = 48 := by decide
    unfold lcB dcB at hl
    simp only [Int32.lt_iff_toInt_lt, e1, e2, Bool.and_eq_true, Bool.not_eq_true', decide_eq_false_iff_not] at hl
    omega
