/-! 11: CashDeriver$Book -/
abbrev BP : Type := Nat × Nat × (Nat → Nat → Int32) × (Nat → JP)
def cJs (w : vWd) (aj : Nat → Nat → Nat) (J : Nat → JP) : va_W := (List.range 30).flatMap (fun n => cJ w (aj n) (J n))
def cJx (w : vWd) (aj : Nat → Nat → Nat) (J : Nat → JP) (n : Nat) : va_W := ((List.range 30).erase n).flatMap (fun n => cJ w (aj n) (J n))
def cB5 (w : vWd) (ab : Nat → Nat) (aj : Nat → Nat → Nat) (B : BP) : va_W :=
  [(ab 0, .inr (1, [.ref (ab 1), .ref (ab 2), .ref (ab 3), .ref (ab 4), .int (nI B.1), .int (nI B.2.1)])), (ab 1, .inl (vA w 0, 12, .inl (B.2.2.1 0))), (ab 2, .inl (vA w 0, 12, .inl (B.2.2.1 1))), (ab 3, .inl (vA w 0, 12, .inl (B.2.2.1 2))), (ab 4, .inl (vA w 3, 30, .inr (.inr (.inr (.inr (fun n => some (aj n 0)))))))]
def cB (w : vWd) (ab : Nat → Nat) (aj : Nat → Nat → Nat) (B : BP) : va_W := cB5 w ab aj B ++ cJs w aj B.2.2.2
def okB (B : BP) : Prop := B.1 ≤ 12 ∧ B.2.1 ≤ 30 ∧ ∀ n, n < 30 → okJ (B.2.2.2 n)
theorem cJs_focus {w : vWd} {aj : Nat → Nat → Nat} {J : Nat → JP} {n : Nat} (hn : n < 30) : (cJs w aj J).Perm (cJ w (aj n) (J n) ++ cJx w aj J n) := by
  have h := List.perm_cons_erase (l := List.range 30) (a := n) (List.mem_range.mpr hn)
  exact List.Perm.flatMap_right (fun n => cJ w (aj n) (J n)) h
theorem cJx_up {w : vWd} {aj : Nat → Nat → Nat} {J : Nat → JP} {n : Nat} {J' : JP} : cJx w aj (uX J n J') n = cJx w aj J n := by
  unfold cJx
  have h : ∀ x ∈ (List.range 30).erase n, cJ w (aj x) (uX J n J' x) = cJ w (aj x) (J x) := by
    intro x hx
    have hx2 := (List.Nodup.mem_erase_iff (List.nodup_range)).mp hx
    rw [uX_n hx2.1]
  rw [List.flatMap_def, List.flatMap_def, List.map_congr_left h]
theorem cJs_back {w : vWd} {aj : Nat → Nat → Nat} {J : Nat → JP} {n : Nat} {J' : JP} (hn : n < 30) : (cJ w (aj n) J' ++ cJx w aj J n).Perm (cJs w aj (uX J n J')) := by
  have h := (cJs_focus (w := w) (aj := aj) (J := uX J n J') hn).symm
  rw [cJx_up, uX_s] at h
  exact h
theorem cB_focus {w : vWd} {ab : Nat → Nat} {aj : Nat → Nat → Nat} {B : BP} {n : Nat} (hn : n < 30) : (cB w ab aj B).Perm (cJ w (aj n) (B.2.2.2 n) ++ (cB5 w ab aj B ++ cJx w aj B.2.2.2 n)) := by
  unfold cB
  refine (List.Perm.append_left _ (cJs_focus hn)).trans ?_
  rw [← List.append_assoc, ← List.append_assoc]
  exact List.Perm.append_right _ List.perm_append_comm
theorem cB_back {w : vWd} {ab : Nat → Nat} {aj : Nat → Nat → Nat} {B : BP} {n : Nat} {J' : JP} (hn : n < 30) : (cJ w (aj n) J' ++ (cB5 w ab aj B ++ cJx w aj B.2.2.2 n)).Perm (cB w ab aj (B.1, B.2.1, B.2.2.1, uX B.2.2.2 n J')) := by
  unfold cB
  refine List.Perm.trans ?_ (List.Perm.append_left _ (cJs_back hn))
  rw [← List.append_assoc, ← List.append_assoc]
  exact List.Perm.append_right _ List.perm_append_comm
/-- x names one of n, at most lim -/
def inL (lim : Int32) (n : Nat) (x : Int32) : Bool := !decide (x < 0) && decide (x < nI n) && decide (x < lim)
theorem inL_true {lim : Int32} {n : Nat} {x : Int32} (hn : n ≤ 30) (h : inL lim n x = true) : ∃ j : Nat, x = nI j ∧ j < n := by
  simp only [inL, Bool.and_eq_true, Bool.not_eq_true', decide_eq_true_eq, decide_eq_false_iff_not] at h
  obtain ⟨j, hj, rfl⟩ := nI_of h.1.1
  exact ⟨j, rfl, (nI_ltI hj (by omega)).mp h.1.2⟩
theorem inL_nI {l n j : Nat} (hl : l ≤ 30) (hn : n ≤ l) (hj : j < 2147483648) : inL (nI l) n (nI j) = decide (j < n) := by
  have h1 : ¬ nI j < 0 := nI_pos hj
  have h2 : (nI j < nI n) = (j < n) := propext (nI_ltI hj (by omega))
  have h3 : (nI j < nI l) = (j < l) := propext (nI_ltI hj (by omega))
  simp only [inL, h2, h3, h1]
  by_cases c : j < n
  · have : j < l := by omega
    simp [c, this]
  · simp [c]
abbrev inA (n : Nat) (x : Int32) : Bool := inL 12 n x
abbrev inR (n : Nat) (x : Int32) : Bool := inL 30 n x
theorem inA_nI {n j : Nat} (hn : n ≤ 12) (hj : j < 2147483648) : inA n (nI j) = decide (j < n) := inL_nI (l := 12) (by omega) hn hj
theorem inR_nI {n j : Nat} (hn : n ≤ 30) (hj : j < 2147483648) : inR n (nI j) = decide (j < n) := inL_nI (l := 30) (by omega) hn hj
def bKind (B : BP) (x : Int32) : Int32 := if inA B.1 x then B.2.2.1 0 x.toNatClampNeg else -1
def bFirst (B : BP) (x : Int32) : Int32 := if inA B.1 x then B.2.2.1 1 x.toNatClampNeg else 0
def bTold (B : BP) (x : Int32) : Int32 := if inA B.1 x then B.2.2.1 2 x.toNatClampNeg else -100000000
def bIsT (B : BP) (x : Int32) : Bool := decide (bTold B x ≠ -100000000)
def bSetX (B : BP) (k : Nat) (x y : Int32) : BP := if inA B.1 x then (B.1, B.2.1, uX B.2.2.1 k (upd (B.2.2.1 k) x.toNatClampNeg y), B.2.2.2) else B
def bRef (B : BP) (aj : Nat → Nat → Nat) (x : Int32) : Value := if inR B.2.1 x then .ref (aj x.toNatClampNeg 0) else .null
def bCnt (B : BP) (k : Nat) (f t : Int32) : Bool := decide (k < B.2.1) && jCounts (B.2.2.2 k) f t
def isum (f : Nat → Int32) : Nat → Int32
  | 0 => 0
  | n + 1 => isum f n + f n
def iorf (f : Nat → Int32) : Nat → Int32
  | 0 => 0
  | n + 1 => iorf f n ||| f n
theorem isum_s (a : Int32) (f : Nat → Int32) (k : Nat) : a + isum f k + f k = a + isum f (k + 1) := by rw [isum, Int32.add_assoc]
theorem isum_0 (a : Int32) (f : Nat → Int32) : a = a + isum f 0 := by rw [isum, Int32.add_zero]
theorem iorf_s (a : Int32) (f : Nat → Int32) (k : Nat) : a ||| iorf f k ||| f k = a ||| iorf f (k + 1) := by rw [iorf, Int32.or_assoc]
theorem iorf_0 (a : Int32) (f : Nat → Int32) : a = a ||| iorf f 0 := by rw [iorf, Int32.or_zero]
def bAddA (B : BP) (x y : Int32) : BP := if B.1 < 12 then (B.1 + 1, B.2.1, uX (uX (uX B.2.2.1 0 (upd (B.2.2.1 0) B.1 x)) 1 (upd (B.2.2.1 1) B.1 y)) 2 (upd (B.2.2.1 2) B.1 (-100000000)), B.2.2.2) else B
def bOpen (B : BP) (p : Int32) : BP := if B.2.1 < 30 then (B.1, B.2.1 + 1, B.2.2.1, uX B.2.2.2 B.2.1 (jBegin p (B.2.2.2 B.2.1))) else B
section
variable {w : vWd} {M : vMet} {C : vCtx} {k n pc : Nat} {L : List (Nat × Value)} {st : List Value} {ws : va_W}
theorem V_dropL {L' L'' : List (Nat × Value)} (e : L = L' ++ L'') (h : V w M C k n pc L' st ws) : V w M C k n pc L st ws := V.locals (fun q hq => by rw [e]; exact List.mem_append_left _ hq) h
end

set_option maxRecDepth 100000 in
set_option maxHeartbeats 4000000 in
theorem c_B_accounts (w : vWd) (ab : Nat → Nat) (aj : Nat → Nat → Nat) (B : BP) : Ct w mX1_accounts 0 0 0 [.ref (ab 0)] (cB w ab aj B) (qE (some (.int (nI B.1))) (cB w ab aj B)) := by
  refine Ct.of (L := [(0, .ref (ab 0))]) (by decide) rfl rfl ?_
  refine V_aload_n dX1_accounts_0 0 rfl ?_
  refine V_get dX1_accounts_1 fX1_27 0 rfl rfl ?_
  exact V_iret dX1_accounts_4 rfl (nb rfl) (nb rfl) ⟨rfl, rfl⟩

set_option maxRecDepth 100000 in
set_option maxHeartbeats 4000000 in
theorem c_B_journals (w : vWd) (ab : Nat → Nat) (aj : Nat → Nat → Nat) (B : BP) : Ct w mX1_journals 0 0 0 [.ref (ab 0)] (cB w ab aj B) (qE (some (.int (nI B.2.1))) (cB w ab aj B)) := by
  refine Ct.of (L := [(0, .ref (ab 0))]) (by decide) rfl rfl ?_
  refine V_aload_n dX1_journals_0 0 rfl ?_
  refine V_get dX1_journals_1 fX1_31 0 rfl rfl ?_
  exact V_iret dX1_journals_4 rfl (nb rfl) (nb rfl) ⟨rfl, rfl⟩

set_option maxRecDepth 100000 in
set_option maxHeartbeats 4000000 in
theorem c_B_clear (w : vWd) (ab : Nat → Nat) (aj : Nat → Nat → Nat) (B : BP) : Ct w mX1_clear 0 0 0 [.ref (ab 0)] (cB w ab aj B) (qE none (cB w ab aj (0, 0, B.2.2))) := by
  refine Ct.of (L := [(0, .ref (ab 0))]) (by decide) rfl rfl ?_
  refine V_aload_n dX1_clear_0 0 rfl ?_
  refine V_iconst 0 dX1_clear_1 (by decide) ?_
  refine V_put dX1_clear_2 pX1_27 0 rfl rfl rfl rfl (ws' := cB w ab aj (0, B.2.1, B.2.2.1, B.2.2.2)) rfl ?_
  refine V_aload_n dX1_clear_5 0 rfl ?_
  refine V_iconst 0 dX1_clear_6 (by decide) ?_
  refine V_put dX1_clear_7 pX1_31 0 rfl rfl rfl rfl (ws' := cB w ab aj (0, 0, B.2.2.1, B.2.2.2)) rfl ?_
  exact V_vret dX1_clear_10 rfl (nb rfl) (nb rfl) ⟨rfl, rfl⟩

set_option maxRecDepth 100000 in
set_option maxHeartbeats 4000000 in
theorem c_B_hasAccount (w : vWd) (ab : Nat → Nat) (aj : Nat → Nat → Nat) (B : BP) (x : Int32) : Ct w mX1_hasAccount 0 0 0 [.ref (ab 0), .int x] (cB w ab aj B) (qE (some (.int (bi (inA B.1 x)))) (cB w ab aj B)) := by
  refine Ct.of (L := [(0, .ref (ab 0)), (1, .int x)]) (by decide) rfl rfl ?_
  refine V_iload_n dX1_hasAccount_0 1 rfl ?_
  refine V_if_lt 22 dX1_hasAccount_1 (by decide) (fun zc1 => ?_) (fun zc1 => ?_)
  · refine V_iconst 0 dX1_hasAccount_22 (by decide) ?_
    exact V_zret dX1_hasAccount_23 rfl rfl (nb rfl) (nb rfl) ⟨by grind [inL, bi], rfl⟩
  · refine V_iload_n dX1_hasAccount_4 1 rfl ?_
    refine V_aload_n dX1_hasAccount_5 0 rfl ?_
    refine V_get dX1_hasAccount_6 fX1_27 0 rfl rfl ?_
    refine V_icmp_ge 22 dX1_hasAccount_9 (by decide) (fun zc2 => ?_) (fun zc2 => ?_)
    · refine V_iconst 0 dX1_hasAccount_22 (by decide) ?_
      exact V_zret dX1_hasAccount_23 rfl rfl (nb rfl) (nb rfl) ⟨by grind [inL, bi], rfl⟩
    · refine V_iload_n dX1_hasAccount_12 1 rfl ?_
      refine V_bipush 12 dX1_hasAccount_13 (by decide) ?_
      refine V_icmp_ge 22 dX1_hasAccount_15 (by decide) (fun zc3 => ?_) (fun zc3 => ?_)
      · refine V_iconst 0 dX1_hasAccount_22 (by decide) ?_
        exact V_zret dX1_hasAccount_23 rfl rfl (nb rfl) (nb rfl) ⟨by grind [inL, bi], rfl⟩
      · refine V_iconst 1 dX1_hasAccount_18 (by decide) ?_
        refine V_goto 23 dX1_hasAccount_19 (by decide) ?_
        exact V_zret dX1_hasAccount_23 rfl rfl (nb rfl) (nb rfl) ⟨by grind [inL, bi], rfl⟩

set_option maxRecDepth 100000 in
set_option maxHeartbeats 4000000 in
theorem c_B_addAccount (w : vWd) (ab : Nat → Nat) (aj : Nat → Nat → Nat) (B : BP) (x y : Int32) (hB : okB B) : Ct w mX1_addAccount 0 0 0 [.ref (ab 0), .int x, .int y] (cB w ab aj B) (qE none (cB w ab aj (bAddA B x y))) := by
  refine Ct.of (L := [(0, .ref (ab 0)), (1, .int x), (2, .int y)]) (by decide) rfl rfl ?_
  obtain ⟨hB1, hB2, hB3⟩ := id hB
  refine V_aload_n dX1_addAccount_0 0 rfl ?_
  refine V_get dX1_addAccount_1 fX1_27 0 rfl rfl ?_
  refine V_bipush 12 dX1_addAccount_4 (by decide) ?_
  refine V_icmp_ge_n B.1 12 50 dX1_addAccount_6 (by decide) (by omega) (by omega) (fun zc1 => ?_) (fun zc1 => ?_)
  · exact V_vret dX1_addAccount_50 rfl (nb rfl) (nb rfl) ⟨rfl, by rw [bAddA, if_neg (by omega)]⟩
  · refine V_aload_n dX1_addAccount_9 0 rfl ?_
    refine V_get dX1_addAccount_10 fX1_9 0 rfl rfl ?_
    refine V_aload_n dX1_addAccount_13 0 rfl ?_
    refine V_get dX1_addAccount_14 fX1_27 0 rfl rfl ?_
    refine V_iload_n dX1_addAccount_17 1 rfl ?_
    refine V_iast dX1_addAccount_18 1 rfl rfl B.1 rfl (by omega) (ws' := cB w ab aj (B.1, B.2.1, uX (B.2.2.1) 0 (upd (B.2.2.1 0) B.1 x), B.2.2.2)) rfl ?_
    refine V_aload_n dX1_addAccount_19 0 rfl ?_
    refine V_get dX1_addAccount_20 fX1_15 0 rfl rfl ?_
    refine V_aload_n dX1_addAccount_23 0 rfl ?_
    refine V_get dX1_addAccount_24 fX1_27 0 rfl rfl ?_
    refine V_iload_n dX1_addAccount_27 2 rfl ?_
    refine V_iast dX1_addAccount_28 2 rfl rfl B.1 rfl (by omega) (ws' := cB w ab aj (B.1, B.2.1, uX (uX (B.2.2.1) 0 (upd (B.2.2.1 0) B.1 x)) 1 (upd (B.2.2.1 1) B.1 y), B.2.2.2)) rfl ?_
    refine V_aload_n dX1_addAccount_29 0 rfl ?_
    refine V_get dX1_addAccount_30 fX1_18 0 rfl rfl ?_
    refine V_aload_n dX1_addAccount_33 0 rfl ?_
    refine V_get dX1_addAccount_34 fX1_27 0 rfl rfl ?_
    refine V_ldc dX1_addAccount_37 kX1_35 ?_
    refine V_iast dX1_addAccount_39 3 rfl rfl B.1 rfl (by omega) (ws' := cB w ab aj (B.1, B.2.1, uX (uX (uX (B.2.2.1) 0 (upd (B.2.2.1 0) B.1 x)) 1 (upd (B.2.2.1 1) B.1 y)) 2 (upd (B.2.2.1 2) B.1 (-100000000)), B.2.2.2)) rfl ?_
    refine V_aload_n dX1_addAccount_40 0 rfl ?_
    refine V_dup dX1_addAccount_41 rfl ?_
    refine V_get dX1_addAccount_42 fX1_27 0 rfl rfl ?_
    refine V_iconst 1 dX1_addAccount_45 (by decide) ?_
    refine V_iadd dX1_addAccount_46 ?_
    refine V_casti (y := nI (B.1 + 1)) (nI_add B.1 1) ?_
    refine V_put dX1_addAccount_47 pX1_27 0 rfl rfl rfl rfl (ws' := cB w ab aj (B.1 + 1, B.2.1, uX (uX (uX (B.2.2.1) 0 (upd (B.2.2.1 0) B.1 x)) 1 (upd (B.2.2.1 1) B.1 y)) 2 (upd (B.2.2.1 2) B.1 (-100000000)), B.2.2.2)) rfl ?_
    exact V_vret dX1_addAccount_50 rfl (nb rfl) (nb rfl) ⟨rfl, by rw [bAddA, if_pos zc1]⟩

set_option maxRecDepth 100000 in
set_option maxHeartbeats 4000000 in
theorem c_B_kindOf (w : vWd) (ab : Nat → Nat) (aj : Nat → Nat → Nat) (B : BP) (x : Int32) (hB : okB B) : Ct w mX1_kindOf 1 0 0 [.ref (ab 0), .int x] (cB w ab aj B) (qE (some (.int (bKind B x))) (cB w ab aj B)) := by
  refine Ct.of (L := [(0, .ref (ab 0)), (1, .int x)]) (by decide) rfl rfl ?_
  obtain ⟨hB1, hB2, hB3⟩ := id hB
  refine V_aload_n dX1_kindOf_0 0 rfl ?_
  refine V_iload_n dX1_kindOf_1 1 rfl ?_
  refine V_selfR dX1_kindOf_2 lX1_36 (c_B_hasAccount w ab aj B x) rfl rfl 0 rfl rfl rfl rfl ?_
  refine V_ifeq_b 17 dX1_kindOf_5 (by decide) (fun zc1 => ?_) (fun zc1 => ?_)
  · refine V_iconst (-1) dX1_kindOf_17 (by decide) ?_
    exact V_iret dX1_kindOf_18 rfl (nb rfl) (nb rfl) ⟨by rw [bKind, zc1]; rfl, rfl⟩
  · refine V_aload_n dX1_kindOf_8 0 rfl ?_
    refine V_get dX1_kindOf_9 fX1_9 0 rfl rfl ?_
    refine V_iload_n dX1_kindOf_12 1 rfl ?_
    obtain ⟨j, hxj, hjn⟩ := inL_true (by omega) zc1
    refine V_iald dX1_kindOf_13 1 rfl rfl j hxj (by omega) ?_
    refine V_goto 18 dX1_kindOf_14 (by decide) ?_
    exact V_iret dX1_kindOf_18 rfl (nb rfl) (nb rfl) ⟨by rw [bKind, if_pos zc1, hxj, nI_clamp (by omega)], rfl⟩

theorem bKind_n {B : BP} (hB : okB B) {k : Nat} (hk : k < B.1) : bKind B (nI k) = B.2.2.1 0 k := by
  obtain ⟨hB1, hB2, hB3⟩ := hB
  rw [bKind, inA_nI (by omega) (by omega), if_pos (by simpa using hk), nI_clamp (by omega)]

set_option maxRecDepth 100000 in
set_option maxHeartbeats 4000000 in
theorem c_B_firstOf (w : vWd) (ab : Nat → Nat) (aj : Nat → Nat → Nat) (B : BP) (x : Int32) (hB : okB B) : Ct w mX1_firstOf 1 0 0 [.ref (ab 0), .int x] (cB w ab aj B) (qE (some (.int (bFirst B x))) (cB w ab aj B)) := by
  refine Ct.of (L := [(0, .ref (ab 0)), (1, .int x)]) (by decide) rfl rfl ?_
  obtain ⟨hB1, hB2, hB3⟩ := id hB
  refine V_aload_n dX1_firstOf_0 0 rfl ?_
  refine V_iload_n dX1_firstOf_1 1 rfl ?_
  refine V_selfR dX1_firstOf_2 lX1_36 (c_B_hasAccount w ab aj B x) rfl rfl 0 rfl rfl rfl rfl ?_
  refine V_ifeq_b 17 dX1_firstOf_5 (by decide) (fun zc1 => ?_) (fun zc1 => ?_)
  · refine V_iconst 0 dX1_firstOf_17 (by decide) ?_
    exact V_iret dX1_firstOf_18 rfl (nb rfl) (nb rfl) ⟨by rw [bFirst, zc1]; rfl, rfl⟩
  · refine V_aload_n dX1_firstOf_8 0 rfl ?_
    refine V_get dX1_firstOf_9 fX1_15 0 rfl rfl ?_
    refine V_iload_n dX1_firstOf_12 1 rfl ?_
    obtain ⟨j, hxj, hjn⟩ := inL_true (by omega) zc1
    refine V_iald dX1_firstOf_13 2 rfl rfl j hxj (by omega) ?_
    refine V_goto 18 dX1_firstOf_14 (by decide) ?_
    exact V_iret dX1_firstOf_18 rfl (nb rfl) (nb rfl) ⟨by rw [bFirst, if_pos zc1, hxj, nI_clamp (by omega)], rfl⟩

theorem bFirst_n {B : BP} (hB : okB B) {k : Nat} (hk : k < B.1) : bFirst B (nI k) = B.2.2.1 1 k := by
  obtain ⟨hB1, hB2, hB3⟩ := hB
  rw [bFirst, inA_nI (by omega) (by omega), if_pos (by simpa using hk), nI_clamp (by omega)]

set_option maxRecDepth 100000 in
set_option maxHeartbeats 4000000 in
theorem c_B_toldOf (w : vWd) (ab : Nat → Nat) (aj : Nat → Nat → Nat) (B : BP) (x : Int32) (hB : okB B) : Ct w mX1_toldOf 1 0 0 [.ref (ab 0), .int x] (cB w ab aj B) (qE (some (.int (bTold B x))) (cB w ab aj B)) := by
  refine Ct.of (L := [(0, .ref (ab 0)), (1, .int x)]) (by decide) rfl rfl ?_
  obtain ⟨hB1, hB2, hB3⟩ := id hB
  refine V_aload_n dX1_toldOf_0 0 rfl ?_
  refine V_iload_n dX1_toldOf_1 1 rfl ?_
  refine V_selfR dX1_toldOf_2 lX1_36 (c_B_hasAccount w ab aj B x) rfl rfl 0 rfl rfl rfl rfl ?_
  refine V_ifeq_b 17 dX1_toldOf_5 (by decide) (fun zc1 => ?_) (fun zc1 => ?_)
  · refine V_ldc dX1_toldOf_17 kX1_35 ?_
    exact V_iret dX1_toldOf_19 rfl (nb rfl) (nb rfl) ⟨by rw [bTold, zc1]; rfl, rfl⟩
  · refine V_aload_n dX1_toldOf_8 0 rfl ?_
    refine V_get dX1_toldOf_9 fX1_18 0 rfl rfl ?_
    refine V_iload_n dX1_toldOf_12 1 rfl ?_
    obtain ⟨j, hxj, hjn⟩ := inL_true (by omega) zc1
    refine V_iald dX1_toldOf_13 3 rfl rfl j hxj (by omega) ?_
    refine V_goto 19 dX1_toldOf_14 (by decide) ?_
    exact V_iret dX1_toldOf_19 rfl (nb rfl) (nb rfl) ⟨by rw [bTold, if_pos zc1, hxj, nI_clamp (by omega)], rfl⟩

theorem bTold_n {B : BP} (hB : okB B) {k : Nat} (hk : k < B.1) : bTold B (nI k) = B.2.2.1 2 k := by
  obtain ⟨hB1, hB2, hB3⟩ := hB
  rw [bTold, inA_nI (by omega) (by omega), if_pos (by simpa using hk), nI_clamp (by omega)]

set_option maxRecDepth 100000 in
set_option maxHeartbeats 4000000 in
theorem c_B_setKind (w : vWd) (ab : Nat → Nat) (aj : Nat → Nat → Nat) (B : BP) (x y : Int32) (hB : okB B) : Ct w mX1_setKind 1 0 0 [.ref (ab 0), .int x, .int y] (cB w ab aj B) (qE none (cB w ab aj (bSetX B 0 x y))) := by
  refine Ct.of (L := [(0, .ref (ab 0)), (1, .int x), (2, .int y)]) (by decide) rfl rfl ?_
  obtain ⟨hB1, hB2, hB3⟩ := id hB
  refine V_aload_n dX1_setKind_0 0 rfl ?_
  refine V_iload_n dX1_setKind_1 1 rfl ?_
  refine V_selfR dX1_setKind_2 lX1_36 (c_B_hasAccount w ab aj B x) rfl rfl 0 rfl rfl rfl rfl ?_
  refine V_ifeq_b 15 dX1_setKind_5 (by decide) (fun zc1 => ?_) (fun zc1 => ?_)
  · exact V_vret dX1_setKind_15 rfl (nb rfl) (nb rfl) ⟨rfl, by rw [bSetX, zc1]; rfl⟩
  · refine V_aload_n dX1_setKind_8 0 rfl ?_
    refine V_get dX1_setKind_9 fX1_9 0 rfl rfl ?_
    refine V_iload_n dX1_setKind_12 1 rfl ?_
    refine V_iload_n dX1_setKind_13 2 rfl ?_
    obtain ⟨j, hxj, hjn⟩ := inL_true (by omega) zc1
    refine V_iast dX1_setKind_14 1 rfl rfl j hxj (by omega) (ws' := cB w ab aj (B.1, B.2.1, uX (B.2.2.1) 0 (upd (B.2.2.1 0) j y), B.2.2.2)) rfl ?_
    exact V_vret dX1_setKind_15 rfl (nb rfl) (nb rfl) ⟨rfl, by rw [bSetX, if_pos zc1, hxj, nI_clamp (by omega)]⟩

set_option maxRecDepth 100000 in
set_option maxHeartbeats 4000000 in
theorem c_B_setTold (w : vWd) (ab : Nat → Nat) (aj : Nat → Nat → Nat) (B : BP) (x y : Int32) (hB : okB B) : Ct w mX1_setTold 1 0 0 [.ref (ab 0), .int x, .int y] (cB w ab aj B) (qE none (cB w ab aj (bSetX B 2 x y))) := by
  refine Ct.of (L := [(0, .ref (ab 0)), (1, .int x), (2, .int y)]) (by decide) rfl rfl ?_
  obtain ⟨hB1, hB2, hB3⟩ := id hB
  refine V_aload_n dX1_setTold_0 0 rfl ?_
  refine V_iload_n dX1_setTold_1 1 rfl ?_
  refine V_selfR dX1_setTold_2 lX1_36 (c_B_hasAccount w ab aj B x) rfl rfl 0 rfl rfl rfl rfl ?_
  refine V_ifeq_b 15 dX1_setTold_5 (by decide) (fun zc1 => ?_) (fun zc1 => ?_)
  · exact V_vret dX1_setTold_15 rfl (nb rfl) (nb rfl) ⟨rfl, by rw [bSetX, zc1]; rfl⟩
  · refine V_aload_n dX1_setTold_8 0 rfl ?_
    refine V_get dX1_setTold_9 fX1_18 0 rfl rfl ?_
    refine V_iload_n dX1_setTold_12 1 rfl ?_
    refine V_iload_n dX1_setTold_13 2 rfl ?_
    obtain ⟨j, hxj, hjn⟩ := inL_true (by omega) zc1
    refine V_iast dX1_setTold_14 3 rfl rfl j hxj (by omega) (ws' := cB w ab aj (B.1, B.2.1, uX (B.2.2.1) 2 (upd (B.2.2.1 2) j y), B.2.2.2)) rfl ?_
    exact V_vret dX1_setTold_15 rfl (nb rfl) (nb rfl) ⟨rfl, by rw [bSetX, if_pos zc1, hxj, nI_clamp (by omega)]⟩

set_option maxRecDepth 100000 in
set_option maxHeartbeats 4000000 in
theorem c_B_isTold (w : vWd) (ab : Nat → Nat) (aj : Nat → Nat → Nat) (B : BP) (x : Int32) (hB : okB B) : Ct w mX1_isTold 2 0 0 [.ref (ab 0), .int x] (cB w ab aj B) (qE (some (.int (bi (bIsT B x)))) (cB w ab aj B)) := by
  refine Ct.of (L := [(0, .ref (ab 0)), (1, .int x)]) (by decide) rfl rfl ?_
  refine V_aload_n dX1_isTold_0 0 rfl ?_
  refine V_iload_n dX1_isTold_1 1 rfl ?_
  refine V_selfR dX1_isTold_2 lX1_40 (c_B_toldOf w ab aj B x hB) rfl rfl 0 rfl rfl rfl rfl ?_
  refine V_ldc dX1_isTold_5 kX1_35 ?_
  refine V_icmp_eq 14 dX1_isTold_7 (by decide) (fun zc1 => ?_) (fun zc1 => ?_)
  · refine V_iconst 0 dX1_isTold_14 (by decide) ?_
    exact V_zret dX1_isTold_15 rfl rfl (nb rfl) (nb rfl) ⟨by grind [bIsT, bi], rfl⟩
  · refine V_iconst 1 dX1_isTold_10 (by decide) ?_
    refine V_goto 15 dX1_isTold_11 (by decide) ?_
    exact V_zret dX1_isTold_15 rfl rfl (nb rfl) (nb rfl) ⟨by grind [bIsT, bi], rfl⟩

set_option maxRecDepth 100000 in
set_option maxHeartbeats 4000000 in
theorem lp_B_toldOnes (w : vWd) (ab : Nat → Nat) (aj : Nat → Nat → Nat) (B : BP) (hB : okB B) : ∀ (m : Nat) (k : Nat), (B.1 + 1 ≤ k + m) → (k ≤ B.1) → V w mX1_toldOnes (vc w 3 0 0 (qE (some (.int (isum (fun k => bi (bIsT B (nI k))) B.1))) (cB w ab aj B))) 0 0 4 [(0, .ref (ab 0)), (1, .int (isum (fun k => bi (bIsT B (nI k))) k)), (2, .int (nI k))] [] (cB w ab aj B) := by
  intro m
  induction m with
  | zero =>
    intro k h1 h2
    exact absurd h1 (by omega)
  | succ m ih =>
    intro k h1 h2
    obtain ⟨hB1, hB2, hB3⟩ := id hB
    refine V_iload_n dX1_toldOnes_4 2 rfl ?_
    refine V_aload_n dX1_toldOnes_5 0 rfl ?_
    refine V_get dX1_toldOnes_6 fX1_27 0 rfl rfl ?_
    refine V_icmp_ge_n k B.1 34 dX1_toldOnes_9 (by decide) (by omega) (by omega) (fun zc1 => ?_) (fun zc1 => ?_)
    · refine V_iload_n dX1_toldOnes_34 1 rfl ?_
      exact V_iret dX1_toldOnes_35 rfl (nb rfl) (nb rfl) ⟨by rw [show k = B.1 by omega], rfl⟩
    · refine V_iload_n dX1_toldOnes_12 1 rfl ?_
      refine V_aload_n dX1_toldOnes_13 0 rfl ?_
      refine V_iload_n dX1_toldOnes_14 2 rfl ?_
      refine V_selfR dX1_toldOnes_15 lX1_44 (c_B_isTold w ab aj B (nI k) hB) rfl rfl 0 rfl rfl rfl rfl ?_
      refine V_ifeq_b 25 dX1_toldOnes_18 (by decide) (fun zc2 => ?_) (fun zc2 => ?_)
      · refine V_iconst 0 dX1_toldOnes_25 (by decide) ?_
        refine V_iadd dX1_toldOnes_26 ?_
        refine V_istore_n dX1_toldOnes_27 rfl (L' := [(0, .ref (ab 0)), (1, .int ((isum (fun k => bi (bIsT B (nI k))) k) + 0)), (2, .int (nI k))]) rfl ?_
        refine V_iinc (nI (k + 1)) dX1_toldOnes_28 2 rfl (nI_i1 k) rfl (L' := [(0, .ref (ab 0)), (1, .int ((isum (fun k => bi (bIsT B (nI k))) k) + 0)), (2, .int (nI (k + 1)))]) rfl ?_
        refine V_goto 4 dX1_toldOnes_31 (by decide) ?_
        rw [show (isum (fun k => bi (bIsT B (nI k))) k) + 0 = isum (fun k => bi (bIsT B (nI k))) (k + 1) by rw [isum, zc2]; rfl]
        exact ih (k + 1) (by omega) (by omega)
      · refine V_iconst 1 dX1_toldOnes_21 (by decide) ?_
        refine V_goto 26 dX1_toldOnes_22 (by decide) ?_
        refine V_iadd dX1_toldOnes_26 ?_
        refine V_istore_n dX1_toldOnes_27 rfl (L' := [(0, .ref (ab 0)), (1, .int ((isum (fun k => bi (bIsT B (nI k))) k) + 1)), (2, .int (nI k))]) rfl ?_
        refine V_iinc (nI (k + 1)) dX1_toldOnes_28 2 rfl (nI_i1 k) rfl (L' := [(0, .ref (ab 0)), (1, .int ((isum (fun k => bi (bIsT B (nI k))) k) + 1)), (2, .int (nI (k + 1)))]) rfl ?_
        refine V_goto 4 dX1_toldOnes_31 (by decide) ?_
        rw [show (isum (fun k => bi (bIsT B (nI k))) k) + 1 = isum (fun k => bi (bIsT B (nI k))) (k + 1) by rw [isum, zc2]; rfl]
        exact ih (k + 1) (by omega) (by omega)

set_option maxRecDepth 100000 in
set_option maxHeartbeats 4000000 in
theorem c_B_toldOnes (w : vWd) (ab : Nat → Nat) (aj : Nat → Nat → Nat) (B : BP) (hB : okB B) : Ct w mX1_toldOnes 3 0 0 [.ref (ab 0)] (cB w ab aj B) (qE (some (.int (isum (fun k => bi (bIsT B (nI k))) B.1))) (cB w ab aj B)) := by
  refine Ct.of (L := [(0, .ref (ab 0))]) (by decide) rfl rfl ?_
  refine V_iconst 0 dX1_toldOnes_0 (by decide) ?_
  refine V_istore_n dX1_toldOnes_1 rfl (L' := [(0, .ref (ab 0)), (1, .int 0)]) rfl ?_
  refine V_iconst 0 dX1_toldOnes_2 (by decide) ?_
  refine V_istore_n dX1_toldOnes_3 rfl (L' := [(0, .ref (ab 0)), (1, .int 0), (2, .int 0)]) rfl ?_
  exact lp_B_toldOnes w ab aj B hB (B.1 + 1) 0 (by omega) (by omega)

set_option maxRecDepth 100000 in
set_option maxHeartbeats 4000000 in
theorem c_B_find (w : vWd) (ab : Nat → Nat) (aj : Nat → Nat → Nat) (B : BP) (x : Int32) (hB : okB B) : Ct w mX1_find 0 0 0 [.ref (ab 0), .int x] (cB w ab aj B) (qE (some (bRef B aj x)) (cB w ab aj B)) := by
  refine Ct.of (L := [(0, .ref (ab 0)), (1, .int x)]) (by decide) rfl rfl ?_
  obtain ⟨hB1, hB2, hB3⟩ := id hB
  refine V_iload_n dX1_find_0 1 rfl ?_
  refine V_if_lt 27 dX1_find_1 (by decide) (fun zc1 => ?_) (fun zc1 => ?_)
  · refine V_null dX1_find_27 ?_
    exact V_aret dX1_find_28 rfl (Or.inl ⟨_, rfl⟩) (Or.inl rfl) (nb rfl) (nb rfl) ⟨by rw [bRef, if_neg (by grind [inL])], rfl⟩
  · refine V_iload_n dX1_find_4 1 rfl ?_
    refine V_aload_n dX1_find_5 0 rfl ?_
    refine V_get dX1_find_6 fX1_31 0 rfl rfl ?_
    refine V_icmp_ge 27 dX1_find_9 (by decide) (fun zc2 => ?_) (fun zc2 => ?_)
    · refine V_null dX1_find_27 ?_
      exact V_aret dX1_find_28 rfl (Or.inl ⟨_, rfl⟩) (Or.inl rfl) (nb rfl) (nb rfl) ⟨by rw [bRef, if_neg (by grind [inL])], rfl⟩
    · refine V_iload_n dX1_find_12 1 rfl ?_
      refine V_bipush 30 dX1_find_13 (by decide) ?_
      refine V_icmp_ge 27 dX1_find_15 (by decide) (fun zc3 => ?_) (fun zc3 => ?_)
      · refine V_null dX1_find_27 ?_
        exact V_aret dX1_find_28 rfl (Or.inl ⟨_, rfl⟩) (Or.inl rfl) (nb rfl) (nb rfl) ⟨by rw [bRef, if_neg (by grind [inL])], rfl⟩
      · have hi : inR B.2.1 x = true := by grind [inL]
        obtain ⟨j, hxj, hjn⟩ := inL_true hB2 hi
        refine V_aload_n dX1_find_18 0 rfl ?_
        refine V_get dX1_find_19 fX1_23 0 rfl rfl ?_
        refine V_iload_n dX1_find_22 1 rfl ?_
        refine V_aald dX1_find_23 4 rfl rfl j hxj (by omega) ?_
        refine V_castv (y := .ref (aj j 0)) rfl ?_
        refine V_goto 28 dX1_find_24 (by decide) ?_
        exact V_aret dX1_find_28 rfl (Or.inl ⟨_, rfl⟩) (Or.inr ⟨_, rfl⟩) (nb rfl) (nb rfl) ⟨by rw [bRef, if_pos hi, hxj, nI_clamp (by omega)], rfl⟩

theorem bRef_n {B : BP} (hB : okB B) {aj : Nat → Nat → Nat} {k : Nat} (hk : k < 2147483648) : bRef B aj (nI k) = if k < B.2.1 then .ref (aj k 0) else .null := by
  obtain ⟨hB1, hB2, hB3⟩ := hB
  rw [bRef, inR_nI hB2 hk, nI_clamp hk]
  simp
theorem c_B_find_n (w : vWd) (ab : Nat → Nat) (aj : Nat → Nat → Nat) (B : BP) (hB : okB B) (k : Nat) (hk : k < B.2.1) : Ct w mX1_find 0 0 0 [.ref (ab 0), .int (nI k)] (cB w ab aj B) (qE (some (.ref (aj k 0))) (cB w ab aj B)) := by
  have h := c_B_find w ab aj B (nI k) hB
  rwa [bRef_n hB (by have := hB.2.1; omega), if_pos hk] at h

set_option maxRecDepth 100000 in
set_option maxHeartbeats 4000000 in
theorem c_B_open (w : vWd) (ab : Nat → Nat) (aj : Nat → Nat → Nat) (B : BP) (x : Int32) (hB : okB B) : Ct w mX1_open 1 0 0 [.ref (ab 0), .int x] (cB w ab aj B) (qE (some (if B.2.1 < 30 then .ref (aj B.2.1 0) else .null)) (cB w ab aj (bOpen B x))) := by
  refine Ct.of (L := [(0, .ref (ab 0)), (1, .int x)]) (by decide) rfl rfl ?_
  obtain ⟨hB1, hB2, hB3⟩ := id hB
  refine V_aload_n dX1_open_0 0 rfl ?_
  refine V_get dX1_open_1 fX1_31 0 rfl rfl ?_
  refine V_bipush 30 dX1_open_4 (by decide) ?_
  refine V_icmp_lt_n B.2.1 30 11 dX1_open_6 (by decide) (by omega) (by omega) (fun zc1 => ?_) (fun zc1 => ?_)
  · refine V_aload_n dX1_open_11 0 rfl ?_
    refine V_get dX1_open_12 fX1_23 0 rfl rfl ?_
    refine V_aload_n dX1_open_15 0 rfl ?_
    refine V_get dX1_open_16 fX1_31 0 rfl rfl ?_
    refine V_aald dX1_open_19 4 rfl rfl B.2.1 rfl (by omega) ?_
    refine V_castv (y := .ref (aj B.2.1 0)) rfl ?_
    refine V_astore_n dX1_open_20 rfl (L' := [(0, .ref (ab 0)), (1, .int x), (2, .ref (aj B.2.1 0))]) rfl ?_
    refine V_aload_n dX1_open_21 2 rfl ?_
    refine V_ifnull dX1_open_22 ?_
    refine V_aload_n dX1_open_25 2 rfl ?_
    refine V_iload_n dX1_open_26 1 rfl ?_
    refine V_partE (ws' := cB w ab aj (B.1, B.2.1, B.2.2.1, uX B.2.2.2 B.2.1 (jBegin x (B.2.2.2 B.2.1)))) dX1_open_27 lX1_47 (cB5 w ab aj B ++ cJx w aj B.2.2.2 B.2.1) (c_J_begin w (aj B.2.1) (B.2.2.2 B.2.1) x) (cB_focus zc1) (cB_back zc1) rfl rfl 0 rfl rfl rfl rfl ?_
    refine V_aload_n dX1_open_30 0 rfl ?_
    refine V_dup dX1_open_31 rfl ?_
    refine V_get dX1_open_32 fX1_31 0 rfl rfl ?_
    refine V_iconst 1 dX1_open_35 (by decide) ?_
    refine V_iadd dX1_open_36 ?_
    refine V_casti (y := nI (B.2.1 + 1)) (nI_add B.2.1 1) ?_
    refine V_put dX1_open_37 pX1_31 0 rfl rfl rfl rfl (ws' := cB w ab aj (B.1, B.2.1 + 1, B.2.2.1, uX B.2.2.2 B.2.1 (jBegin x (B.2.2.2 B.2.1)))) rfl ?_
    refine V_aload_n dX1_open_40 2 rfl ?_
    exact V_aret dX1_open_41 rfl (Or.inl ⟨_, rfl⟩) (Or.inr ⟨_, rfl⟩) (nb rfl) (nb rfl) ⟨by rw [if_pos zc1], by rw [bOpen, if_pos zc1]⟩
  · refine V_null dX1_open_9 ?_
    exact V_aret dX1_open_10 rfl (Or.inl ⟨_, rfl⟩) (Or.inl rfl) (nb rfl) (nb rfl) ⟨by rw [if_neg (by omega)], by rw [bOpen, if_neg (by omega)]⟩

set_option maxRecDepth 100000 in
set_option maxHeartbeats 4000000 in
theorem c_B_dropLatest (w : vWd) (ab : Nat → Nat) (aj : Nat → Nat → Nat) (B : BP) (hB : okB B) : Ct w mX1_dropLatest 1 0 0 [.ref (ab 0)] (cB w ab aj B) (qE none (cB w ab aj (B.1, B.2.1 - 1, B.2.2))) := by
  refine Ct.of (L := [(0, .ref (ab 0))]) (by decide) rfl rfl ?_
  obtain ⟨hB1, hB2, hB3⟩ := id hB
  refine V_aload_n dX1_dropLatest_0 0 rfl ?_
  refine V_aload_n dX1_dropLatest_1 0 rfl ?_
  refine V_get dX1_dropLatest_2 fX1_31 0 rfl rfl ?_
  refine V_iconst 1 dX1_dropLatest_5 (by decide) ?_
  refine V_isub dX1_dropLatest_6 ?_
  refine V_iconst 0 dX1_dropLatest_7 (by decide) ?_
  refine V_mmax dX1_dropLatest_8 lX1_51 rfl ?_
  refine V_casti (y := nI (B.2.1 - 1)) (imax_dec _ hB2) ?_
  refine V_put dX1_dropLatest_11 pX1_31 0 rfl rfl rfl rfl (ws' := cB w ab aj (B.1, B.2.1 - 1, B.2.2.1, B.2.2.2)) rfl ?_
  exact V_vret dX1_dropLatest_14 rfl (nb rfl) (nb rfl) ⟨rfl, rfl⟩

set_option maxRecDepth 100000 in
set_option maxHeartbeats 4000000 in
theorem c_B_counting (w : vWd) (ab : Nat → Nat) (aj : Nat → Nat → Nat) (B : BP) (k : Nat) (f t : Int32) (hk : k < 30) (hB : okB B) : Ct w mX1_counting 1 0 0 [.ref (ab 0), .int (nI k), .int f, .int t] (cB w ab aj B) (qE (some (if bCnt B k f t then .ref (aj k 0) else .null)) (cB w ab aj B)) := by
  refine Ct.of (L := [(0, .ref (ab 0)), (1, .int (nI k)), (2, .int f), (3, .int t)]) (by decide) rfl rfl ?_
  obtain ⟨hB1, hB2, hB3⟩ := id hB
  refine V_aload_n dX1_counting_0 0 rfl ?_
  refine V_iload_n dX1_counting_1 1 rfl ?_
  refine V_selfR dX1_counting_2 lX1_57 (c_B_find w ab aj B (nI k) hB) rfl rfl 0 rfl rfl rfl rfl ?_
  by_cases hc : k < B.2.1
  · refine V_castv (y := .ref (aj k 0)) (by rw [bRef_n hB (by omega), if_pos hc]) ?_
    have hJ := hB3 k (by omega)
    refine V_astore dX1_counting_5 rfl (L' := [(0, .ref (ab 0)), (1, .int (nI k)), (2, .int f), (3, .int t), (4, .ref (aj k 0))]) rfl ?_
    refine V_aload dX1_counting_7 4 rfl ?_
    refine V_ifnull dX1_counting_9 ?_
    refine V_aload dX1_counting_12 4 rfl ?_
    refine V_iload_n dX1_counting_14 2 rfl ?_
    refine V_iload_n dX1_counting_15 3 rfl ?_
    refine V_partR dX1_counting_16 lX1_61 (cB5 w ab aj B ++ cJx w aj B.2.2.2 k) (c_J_countsIn w (aj k) (B.2.2.2 k) f t) (cB_focus (by omega)) rfl rfl 0 rfl rfl rfl rfl ?_
    refine V_ifeq_b 27 dX1_counting_19 (by decide) (fun zc1 => ?_) (fun zc1 => ?_)
    · refine V_null dX1_counting_27 ?_
      exact V_aret dX1_counting_28 rfl (Or.inl ⟨_, rfl⟩) (Or.inl rfl) (nb rfl) (nb rfl) ⟨by rw [if_neg (by grind [bCnt])], rfl⟩
    · refine V_aload dX1_counting_22 4 rfl ?_
      refine V_goto 28 dX1_counting_24 (by decide) ?_
      exact V_aret dX1_counting_28 rfl (Or.inl ⟨_, rfl⟩) (Or.inr ⟨_, rfl⟩) (nb rfl) (nb rfl) ⟨by rw [if_pos (by grind [bCnt])], rfl⟩
  · refine V_castv (y := .null) (by rw [bRef_n hB (by omega), if_neg hc]) ?_
    refine V_astoreN dX1_counting_5 rfl (L' := [(0, .ref (ab 0)), (1, .int (nI k)), (2, .int f), (3, .int t), (4, .null)]) rfl ?_
    refine V_aloadN dX1_counting_7 4 rfl ?_
    refine V_ifnullN 27 dX1_counting_9 (by decide) ?_
    refine V_null dX1_counting_27 ?_
    exact V_aret dX1_counting_28 rfl (Or.inl ⟨_, rfl⟩) (Or.inl rfl) (nb rfl) (nb rfl) ⟨by rw [if_neg (by grind [bCnt])], rfl⟩

set_option maxRecDepth 100000 in
set_option maxHeartbeats 4000000 in
theorem lp_B_struckOnes (w : vWd) (ab : Nat → Nat) (aj : Nat → Nat → Nat) (B : BP) (hB : okB B) : ∀ (m : Nat) (k : Nat), (B.2.1 + 1 ≤ k + m) → (k ≤ B.2.1) → V w mX1_struckOnes (vc w 1 0 0 (qE (some (.int (isum (fun k => bi (B.2.2.2 k).2.2.2.2.1) B.2.1))) (cB w ab aj B))) 0 0 4 [(0, .ref (ab 0)), (1, .int (isum (fun k => bi (B.2.2.2 k).2.2.2.2.1) k)), (2, .int (nI k))] [] (cB w ab aj B) := by
  intro m
  induction m with
  | zero =>
    intro k h1 h2
    exact absurd h1 (by omega)
  | succ m ih =>
    intro k h1 h2
    obtain ⟨hB1, hB2, hB3⟩ := id hB
    refine V_iload_n dX1_struckOnes_4 2 rfl ?_
    refine V_aload_n dX1_struckOnes_5 0 rfl ?_
    refine V_get dX1_struckOnes_6 fX1_31 0 rfl rfl ?_
    refine V_icmp_ge_n k B.2.1 43 dX1_struckOnes_9 (by decide) (by omega) (by omega) (fun zc1 => ?_) (fun zc1 => ?_)
    · refine V_iload_n dX1_struckOnes_43 1 rfl ?_
      exact V_iret dX1_struckOnes_44 rfl (nb rfl) (nb rfl) ⟨by rw [show k = B.2.1 by omega], rfl⟩
    · refine V_aload_n dX1_struckOnes_12 0 rfl ?_
      refine V_iload_n dX1_struckOnes_13 2 rfl ?_
      refine V_selfR dX1_struckOnes_14 lX1_57 (c_B_find_n w ab aj B hB k (by omega)) rfl rfl 0 rfl rfl rfl rfl ?_
      refine V_astore_n dX1_struckOnes_17 rfl (L' := [(0, .ref (ab 0)), (1, .int (isum (fun k => bi (B.2.2.2 k).2.2.2.2.1) k)), (2, .int (nI k)), (3, .ref (aj k 0))]) rfl ?_
      refine V_iload_n dX1_struckOnes_18 1 rfl ?_
      refine V_aload_n dX1_struckOnes_19 3 rfl ?_
      refine V_ifnull dX1_struckOnes_20 ?_
      refine V_aload_n dX1_struckOnes_23 3 rfl ?_
      refine V_partR dX1_struckOnes_24 lX1_65 (cB5 w ab aj B ++ cJx w aj B.2.2.2 k) (c_J_isStruck w (aj k) (B.2.2.2 k)) (cB_focus (by omega)) rfl rfl 0 rfl rfl rfl rfl ?_
      refine V_ifeq_b 34 dX1_struckOnes_27 (by decide) (fun zc2 => ?_) (fun zc2 => ?_)
      · refine V_iconst 0 dX1_struckOnes_34 (by decide) ?_
        refine V_iadd dX1_struckOnes_35 ?_
        refine V_istore_n dX1_struckOnes_36 rfl (L' := [(0, .ref (ab 0)), (1, .int ((isum (fun k => bi (B.2.2.2 k).2.2.2.2.1) k) + 0)), (2, .int (nI k)), (3, .ref (aj k 0))]) rfl ?_
        refine V_iinc (nI (k + 1)) dX1_struckOnes_37 2 rfl (nI_i1 k) rfl (L' := [(0, .ref (ab 0)), (1, .int ((isum (fun k => bi (B.2.2.2 k).2.2.2.2.1) k) + 0)), (2, .int (nI (k + 1))), (3, .ref (aj k 0))]) rfl ?_
        refine V_goto 4 dX1_struckOnes_40 (by decide) ?_
        refine V_dropL (L' := [(0, .ref (ab 0)), (1, .int ((isum (fun k => bi (B.2.2.2 k).2.2.2.2.1) k) + 0)), (2, .int (nI (k + 1)))]) (L'' := [(3, .ref (aj k 0))]) rfl ?_
        rw [show (isum (fun k => bi (B.2.2.2 k).2.2.2.2.1) k) + 0 = isum (fun k => bi (B.2.2.2 k).2.2.2.2.1) (k + 1) by rw [isum, zc2]; rfl]
        exact ih (k + 1) (by omega) (by omega)
      · refine V_iconst 1 dX1_struckOnes_30 (by decide) ?_
        refine V_goto 35 dX1_struckOnes_31 (by decide) ?_
        refine V_iadd dX1_struckOnes_35 ?_
        refine V_istore_n dX1_struckOnes_36 rfl (L' := [(0, .ref (ab 0)), (1, .int ((isum (fun k => bi (B.2.2.2 k).2.2.2.2.1) k) + 1)), (2, .int (nI k)), (3, .ref (aj k 0))]) rfl ?_
        refine V_iinc (nI (k + 1)) dX1_struckOnes_37 2 rfl (nI_i1 k) rfl (L' := [(0, .ref (ab 0)), (1, .int ((isum (fun k => bi (B.2.2.2 k).2.2.2.2.1) k) + 1)), (2, .int (nI (k + 1))), (3, .ref (aj k 0))]) rfl ?_
        refine V_goto 4 dX1_struckOnes_40 (by decide) ?_
        refine V_dropL (L' := [(0, .ref (ab 0)), (1, .int ((isum (fun k => bi (B.2.2.2 k).2.2.2.2.1) k) + 1)), (2, .int (nI (k + 1)))]) (L'' := [(3, .ref (aj k 0))]) rfl ?_
        rw [show (isum (fun k => bi (B.2.2.2 k).2.2.2.2.1) k) + 1 = isum (fun k => bi (B.2.2.2 k).2.2.2.2.1) (k + 1) by rw [isum, zc2]; rfl]
        exact ih (k + 1) (by omega) (by omega)

set_option maxRecDepth 100000 in
set_option maxHeartbeats 4000000 in
theorem c_B_struckOnes (w : vWd) (ab : Nat → Nat) (aj : Nat → Nat → Nat) (B : BP) (hB : okB B) : Ct w mX1_struckOnes 1 0 0 [.ref (ab 0)] (cB w ab aj B) (qE (some (.int (isum (fun k => bi (B.2.2.2 k).2.2.2.2.1) B.2.1))) (cB w ab aj B)) := by
  refine Ct.of (L := [(0, .ref (ab 0))]) (by decide) rfl rfl ?_
  refine V_iconst 0 dX1_struckOnes_0 (by decide) ?_
  refine V_istore_n dX1_struckOnes_1 rfl (L' := [(0, .ref (ab 0)), (1, .int 0)]) rfl ?_
  refine V_iconst 0 dX1_struckOnes_2 (by decide) ?_
  refine V_istore_n dX1_struckOnes_3 rfl (L' := [(0, .ref (ab 0)), (1, .int 0), (2, .int 0)]) rfl ?_
  exact lp_B_struckOnes w ab aj B hB (B.2.1 + 1) 0 (by omega) (by omega)

def bBal (B : BP) (x p : Int32) : Int32 := bFirst B x + isum (fun n => if bCnt B n 0 p then jNet (B.2.2.2 n) x (B.2.2.2 n).2.1 else 0) B.2.1

set_option maxRecDepth 100000 in
set_option maxHeartbeats 4000000 in
theorem lp_B_balanceOf (w : vWd) (ab : Nat → Nat) (aj : Nat → Nat → Nat) (B : BP) (x p : Int32) (hB : okB B) : ∀ (m : Nat) (n : Nat), (B.2.1 + 1 ≤ n + m) → (n ≤ B.2.1) → V w mX1_balanceOf (vc w 3 0 0 (qE (some (.int (bBal B x p))) (cB w ab aj B))) 0 0 9 [(0, .ref (ab 0)), (1, .int x), (2, .int p), (3, .int (bFirst B x + isum (fun n => if bCnt B n 0 p then jNet (B.2.2.2 n) x (B.2.2.2 n).2.1 else 0) n)), (4, .int (nI n))] [] (cB w ab aj B) := by
  intro m
  induction m with
  | zero =>
    intro n h1 h2
    exact absurd h1 (by omega)
  | succ m ih =>
    intro n h1 h2
    obtain ⟨hB1, hB2, hB3⟩ := id hB
    refine V_iload dX1_balanceOf_9 4 rfl ?_
    refine V_aload_n dX1_balanceOf_11 0 rfl ?_
    refine V_get dX1_balanceOf_12 fX1_31 0 rfl rfl ?_
    refine V_icmp_ge_n n B.2.1 52 dX1_balanceOf_15 (by decide) (by omega) (by omega) (fun zc1 => ?_) (fun zc1 => ?_)
    · refine V_iload_n dX1_balanceOf_52 3 rfl ?_
      exact V_iret dX1_balanceOf_53 rfl (nb rfl) (nb rfl) ⟨by rw [show n = B.2.1 by omega]; rfl, rfl⟩
    · refine V_aload_n dX1_balanceOf_18 0 rfl ?_
      refine V_iload dX1_balanceOf_19 4 rfl ?_
      refine V_iconst 0 dX1_balanceOf_21 (by decide) ?_
      refine V_iload_n dX1_balanceOf_22 2 rfl ?_
      refine V_selfR dX1_balanceOf_23 lX1_72 (c_B_counting w ab aj B n 0 p (by omega) hB) rfl rfl 0 rfl rfl rfl rfl ?_
      by_cases hc : bCnt B n 0 p = true
      · refine V_castv (y := .ref (aj n 0)) (if_pos hc) ?_
        have hJ := hB3 n (by omega)
        refine V_astore dX1_balanceOf_26 rfl (L' := [(0, .ref (ab 0)), (1, .int x), (2, .int p), (3, .int (bFirst B x + isum (fun n => if bCnt B n 0 p then jNet (B.2.2.2 n) x (B.2.2.2 n).2.1 else 0) n)), (4, .int (nI n)), (5, .ref (aj n 0))]) rfl ?_
        refine V_iload_n dX1_balanceOf_28 3 rfl ?_
        refine V_aload dX1_balanceOf_29 5 rfl ?_
        refine V_ifnonnull 38 dX1_balanceOf_31 (by decide) ?_
        refine V_aload dX1_balanceOf_38 5 rfl ?_
        refine V_iload_n dX1_balanceOf_40 1 rfl ?_
        refine V_partR dX1_balanceOf_41 lX1_76 (cB5 w ab aj B ++ cJx w aj B.2.2.2 n) (c_J_netOf w (aj n) (B.2.2.2 n) x hJ) (cB_focus (by omega)) rfl rfl 0 rfl rfl rfl rfl ?_
        refine V_iadd dX1_balanceOf_44 ?_
        refine V_istore_n dX1_balanceOf_45 rfl (L' := [(0, .ref (ab 0)), (1, .int x), (2, .int p), (3, .int ((bFirst B x + isum (fun n => if bCnt B n 0 p then jNet (B.2.2.2 n) x (B.2.2.2 n).2.1 else 0) n) + (jNet (B.2.2.2 n) x (B.2.2.2 n).2.1))), (4, .int (nI n)), (5, .ref (aj n 0))]) rfl ?_
        refine V_iinc (nI (n + 1)) dX1_balanceOf_46 4 rfl (nI_i1 n) rfl (L' := [(0, .ref (ab 0)), (1, .int x), (2, .int p), (3, .int ((bFirst B x + isum (fun n => if bCnt B n 0 p then jNet (B.2.2.2 n) x (B.2.2.2 n).2.1 else 0) n) + (jNet (B.2.2.2 n) x (B.2.2.2 n).2.1))), (4, .int (nI (n + 1))), (5, .ref (aj n 0))]) rfl ?_
        refine V_goto 9 dX1_balanceOf_49 (by decide) ?_
        refine V_dropL (L' := [(0, .ref (ab 0)), (1, .int x), (2, .int p), (3, .int ((bFirst B x + isum (fun n => if bCnt B n 0 p then jNet (B.2.2.2 n) x (B.2.2.2 n).2.1 else 0) n) + (jNet (B.2.2.2 n) x (B.2.2.2 n).2.1))), (4, .int (nI (n + 1)))]) (L'' := [(5, .ref (aj n 0))]) rfl ?_
        rw [show (bFirst B x + isum (fun n => if bCnt B n 0 p then jNet (B.2.2.2 n) x (B.2.2.2 n).2.1 else 0) n) + (jNet (B.2.2.2 n) x (B.2.2.2 n).2.1) = bFirst B x + isum (fun n => if bCnt B n 0 p then jNet (B.2.2.2 n) x (B.2.2.2 n).2.1 else 0) (n + 1) by rw [← isum_s]; simp only [hc]; rfl]
        exact ih (n + 1) (by omega) (by omega)
      · refine V_castv (y := .null) (if_neg hc) ?_
        refine V_astoreN dX1_balanceOf_26 rfl (L' := [(0, .ref (ab 0)), (1, .int x), (2, .int p), (3, .int (bFirst B x + isum (fun n => if bCnt B n 0 p then jNet (B.2.2.2 n) x (B.2.2.2 n).2.1 else 0) n)), (4, .int (nI n)), (5, .null)]) rfl ?_
        refine V_iload_n dX1_balanceOf_28 3 rfl ?_
        refine V_aloadN dX1_balanceOf_29 5 rfl ?_
        refine V_ifnonnullN dX1_balanceOf_31 ?_
        refine V_iconst 0 dX1_balanceOf_34 (by decide) ?_
        refine V_goto 44 dX1_balanceOf_35 (by decide) ?_
        refine V_iadd dX1_balanceOf_44 ?_
        refine V_istore_n dX1_balanceOf_45 rfl (L' := [(0, .ref (ab 0)), (1, .int x), (2, .int p), (3, .int ((bFirst B x + isum (fun n => if bCnt B n 0 p then jNet (B.2.2.2 n) x (B.2.2.2 n).2.1 else 0) n) + 0)), (4, .int (nI n)), (5, .null)]) rfl ?_
        refine V_iinc (nI (n + 1)) dX1_balanceOf_46 4 rfl (nI_i1 n) rfl (L' := [(0, .ref (ab 0)), (1, .int x), (2, .int p), (3, .int ((bFirst B x + isum (fun n => if bCnt B n 0 p then jNet (B.2.2.2 n) x (B.2.2.2 n).2.1 else 0) n) + 0)), (4, .int (nI (n + 1))), (5, .null)]) rfl ?_
        refine V_goto 9 dX1_balanceOf_49 (by decide) ?_
        refine V_dropL (L' := [(0, .ref (ab 0)), (1, .int x), (2, .int p), (3, .int ((bFirst B x + isum (fun n => if bCnt B n 0 p then jNet (B.2.2.2 n) x (B.2.2.2 n).2.1 else 0) n) + 0)), (4, .int (nI (n + 1)))]) (L'' := [(5, .null)]) rfl ?_
        rw [show (bFirst B x + isum (fun n => if bCnt B n 0 p then jNet (B.2.2.2 n) x (B.2.2.2 n).2.1 else 0) n) + 0 = bFirst B x + isum (fun n => if bCnt B n 0 p then jNet (B.2.2.2 n) x (B.2.2.2 n).2.1 else 0) (n + 1) by rw [← isum_s]; simp only [hc]; rfl]
        exact ih (n + 1) (by omega) (by omega)

set_option maxRecDepth 100000 in
set_option maxHeartbeats 4000000 in
theorem c_B_balanceOf (w : vWd) (ab : Nat → Nat) (aj : Nat → Nat → Nat) (B : BP) (x p : Int32) (hB : okB B) : Ct w mX1_balanceOf 3 0 0 [.ref (ab 0), .int x, .int p] (cB w ab aj B) (qE (some (.int (bBal B x p))) (cB w ab aj B)) := by
  refine Ct.of (L := [(0, .ref (ab 0)), (1, .int x), (2, .int p)]) (by decide) rfl rfl ?_
  refine V_aload_n dX1_balanceOf_0 0 rfl ?_
  refine V_iload_n dX1_balanceOf_1 1 rfl ?_
  refine V_selfR dX1_balanceOf_2 lX1_69 (c_B_firstOf w ab aj B x hB) rfl rfl 0 rfl rfl rfl rfl ?_
  refine V_istore_n dX1_balanceOf_5 rfl (L' := [(0, .ref (ab 0)), (1, .int x), (2, .int p), (3, .int (bFirst B x))]) rfl ?_
  refine V_iconst 0 dX1_balanceOf_6 (by decide) ?_
  refine V_istore dX1_balanceOf_7 rfl (L' := [(0, .ref (ab 0)), (1, .int x), (2, .int p), (3, .int (bFirst B x)), (4, .int 0)]) rfl ?_
  refine V_L ?_ (lp_B_balanceOf w ab aj B x p hB (B.2.1 + 1) 0 (by omega) (by omega))
  rw [← isum_0]; rfl

def bRes (B : BP) (x : Int32) : Int32 := if bIsT B x then bTold B x - bBal B x 19 else 0

set_option maxRecDepth 100000 in
set_option maxHeartbeats 4000000 in
theorem c_B_residualOf (w : vWd) (ab : Nat → Nat) (aj : Nat → Nat → Nat) (B : BP) (x : Int32) (hB : okB B) : Ct w mX1_residualOf 4 0 0 [.ref (ab 0), .int x] (cB w ab aj B) (qE (some (.int (bRes B x))) (cB w ab aj B)) := by
  refine Ct.of (L := [(0, .ref (ab 0)), (1, .int x)]) (by decide) rfl rfl ?_
  refine V_aload_n dX1_residualOf_0 0 rfl ?_
  refine V_iload_n dX1_residualOf_1 1 rfl ?_
  refine V_selfR dX1_residualOf_2 lX1_44 (c_B_isTold w ab aj B x hB) rfl rfl 0 rfl rfl rfl rfl ?_
  refine V_ifeq_b 24 dX1_residualOf_5 (by decide) (fun zc1 => ?_) (fun zc1 => ?_)
  · refine V_iconst 0 dX1_residualOf_24 (by decide) ?_
    exact V_iret dX1_residualOf_25 rfl (nb rfl) (nb rfl) ⟨by rw [bRes, zc1]; rfl, rfl⟩
  · refine V_aload_n dX1_residualOf_8 0 rfl ?_
    refine V_iload_n dX1_residualOf_9 1 rfl ?_
    refine V_selfR dX1_residualOf_10 lX1_40 (c_B_toldOf w ab aj B x hB) rfl rfl 0 rfl rfl rfl rfl ?_
    refine V_aload_n dX1_residualOf_13 0 rfl ?_
    refine V_iload_n dX1_residualOf_14 1 rfl ?_
    refine V_bipush 19 dX1_residualOf_15 (by decide) ?_
    refine V_selfR dX1_residualOf_17 lX1_79 (c_B_balanceOf w ab aj B x 19 hB) rfl rfl 0 rfl rfl rfl rfl ?_
    refine V_isub dX1_residualOf_20 ?_
    refine V_goto 25 dX1_residualOf_21 (by decide) ?_
    exact V_iret dX1_residualOf_25 rfl (nb rfl) (nb rfl) ⟨by rw [bRes, zc1]; rfl, rfl⟩

def classC (k : Int32) : Int32 := if k = 1 ∨ k = 2 then 0 else k - 2
def sortC (kc kd : Int32) : Int32 := if kc ≠ 0 ∧ kd ≠ 0 then 4 else if kc = kd then 5 else classC (if kc = 0 then kd else kc)
/-- kinds of the accounts credited and debited by piece k of journal n -/
def bKc (B : BP) (n k : Nat) : Int32 := bKind B ((B.2.2.2 n).2.2.2.2.2 3 k)
def bKd (B : BP) (n k : Nat) : Int32 := bKind B ((B.2.2.2 n).2.2.2.2.2 4 k)
def bMv (B : BP) (n k : Nat) : Int32 := (B.2.2.2 n).2.2.2.2.2 5 k
def bNp (B : BP) (n : Nat) : Nat := (B.2.2.2 n).2.2.2.1
def bSort (B : BP) (n k : Nat) : Int32 := sortC (bKc B n k) (bKd B n k)
def apC (kc kd mv : Int32) : Int32 := if sortC kc kd ≠ 4 then 0 else if (classC kc = 0) = (classC kd = 0) then 0 else if classC kd = 0 then mv else -mv

set_option maxRecDepth 100000 in
set_option maxHeartbeats 4000000 in
theorem c_B_classOf (w : vWd) (x : Int32) : Ct w mX1_classOf 0 0 0 [.int x] ([]) (qE (some (.int (classC x))) []) := by
  refine Ct.of (L := [(0, .int x)]) (by decide) rfl rfl ?_
  refine V_iload_n dX1_classOf_0 0 rfl ?_
  refine V_iconst 1 dX1_classOf_1 (by decide) ?_
  refine V_icmp_eq 10 dX1_classOf_2 (by decide) (fun zc1 => ?_) (fun zc1 => ?_)
  · refine V_iconst 0 dX1_classOf_10 (by decide) ?_
    refine V_goto 17 dX1_classOf_11 (by decide) ?_
    exact V_iret dX1_classOf_17 rfl (nb rfl) (nb rfl) ⟨by grind [classC], rfl⟩
  · refine V_iload_n dX1_classOf_5 0 rfl ?_
    refine V_iconst 2 dX1_classOf_6 (by decide) ?_
    refine V_icmp_ne 14 dX1_classOf_7 (by decide) (fun zc2 => ?_) (fun zc2 => ?_)
    · refine V_iload_n dX1_classOf_14 0 rfl ?_
      refine V_iconst 2 dX1_classOf_15 (by decide) ?_
      refine V_isub dX1_classOf_16 ?_
      exact V_iret dX1_classOf_17 rfl (nb rfl) (nb rfl) ⟨by grind [classC], rfl⟩
    · refine V_iconst 0 dX1_classOf_10 (by decide) ?_
      refine V_goto 17 dX1_classOf_11 (by decide) ?_
      exact V_iret dX1_classOf_17 rfl (nb rfl) (nb rfl) ⟨by grind [classC], rfl⟩

set_option maxRecDepth 100000 in
set_option maxHeartbeats 4000000 in
theorem c_B_sortOf (w : vWd) (ab : Nat → Nat) (aj : Nat → Nat → Nat) (B : BP) (n k : Nat) (hn : n < 30) (hk : k < (B.2.2.2 n).2.2.2.1) (hB : okB B) : Ct w mX1_sortOf 2 0 0 [.ref (ab 0), .ref (aj n 0), .int (nI k)] (cB w ab aj B) (qE (some (.int (bSort B n k))) (cB w ab aj B)) := by
  refine Ct.of (L := [(0, .ref (ab 0)), (1, .ref (aj n 0)), (2, .int (nI k))]) (by decide) rfl rfl ?_
  obtain ⟨hB1, hB2, hB3⟩ := id hB
  have hJ := hB3 n hn
  refine V_aload_n dX1_sortOf_0 0 rfl ?_
  refine V_aload_n dX1_sortOf_1 1 rfl ?_
  refine V_iload_n dX1_sortOf_2 2 rfl ?_
  refine V_partR dX1_sortOf_3 lX1_95 (cB5 w ab aj B ++ cJx w aj B.2.2.2 n) (c_J_creditedOf_n w (aj n) (B.2.2.2 n) hJ k (by omega)) (cB_focus (by omega)) rfl rfl 0 rfl rfl rfl rfl ?_
  refine V_selfR dX1_sortOf_6 lX1_89 (c_B_kindOf w ab aj B ((B.2.2.2 n).2.2.2.2.2 3 k) hB) rfl rfl 0 rfl rfl rfl rfl ?_
  refine V_istore_n dX1_sortOf_9 rfl (L' := [(0, .ref (ab 0)), (1, .ref (aj n 0)), (2, .int (nI k)), (3, .int (bKind B ((B.2.2.2 n).2.2.2.2.2 3 k)))]) rfl ?_
  refine V_aload_n dX1_sortOf_10 0 rfl ?_
  refine V_aload_n dX1_sortOf_11 1 rfl ?_
  refine V_iload_n dX1_sortOf_12 2 rfl ?_
  refine V_partR dX1_sortOf_13 lX1_98 (cB5 w ab aj B ++ cJx w aj B.2.2.2 n) (c_J_debitedOf_n w (aj n) (B.2.2.2 n) hJ k (by omega)) (cB_focus (by omega)) rfl rfl 0 rfl rfl rfl rfl ?_
  refine V_selfR dX1_sortOf_16 lX1_89 (c_B_kindOf w ab aj B ((B.2.2.2 n).2.2.2.2.2 4 k) hB) rfl rfl 0 rfl rfl rfl rfl ?_
  refine V_istore dX1_sortOf_19 rfl (L' := [(0, .ref (ab 0)), (1, .ref (aj n 0)), (2, .int (nI k)), (3, .int (bKind B ((B.2.2.2 n).2.2.2.2.2 3 k))), (4, .int (bKind B ((B.2.2.2 n).2.2.2.2.2 4 k)))]) rfl ?_
  refine V_iload_n dX1_sortOf_21 3 rfl ?_
  refine V_if_eq 32 dX1_sortOf_22 (by decide) (fun zc1 => ?_) (fun zc1 => ?_)
  · refine V_iload_n dX1_sortOf_32 3 rfl ?_
    refine V_iload dX1_sortOf_33 4 rfl ?_
    refine V_icmp_ne 40 dX1_sortOf_35 (by decide) (fun zc2 => ?_) (fun zc2 => ?_)
    · refine V_iload_n dX1_sortOf_40 3 rfl ?_
      refine V_if_ne 49 dX1_sortOf_41 (by decide) (fun zc3 => ?_) (fun zc3 => ?_)
      · refine V_iload_n dX1_sortOf_49 3 rfl ?_
        refine V_purS dX1_sortOf_50 lX1_101 (c_B_classOf w (bKind B ((B.2.2.2 n).2.2.2.2.2 3 k))) rfl rfl rfl ?_
        exact V_iret dX1_sortOf_53 rfl (nb rfl) (nb rfl) ⟨by grind [bSort, sortC, bKc, bKd], rfl⟩
      · refine V_iload dX1_sortOf_44 4 rfl ?_
        refine V_goto 50 dX1_sortOf_46 (by decide) ?_
        refine V_purS dX1_sortOf_50 lX1_101 (c_B_classOf w (bKind B ((B.2.2.2 n).2.2.2.2.2 4 k))) rfl rfl rfl ?_
        exact V_iret dX1_sortOf_53 rfl (nb rfl) (nb rfl) ⟨by grind [bSort, sortC, bKc, bKd], rfl⟩
    · refine V_iconst 5 dX1_sortOf_38 (by decide) ?_
      exact V_iret dX1_sortOf_39 rfl (nb rfl) (nb rfl) ⟨by grind [bSort, sortC, bKc, bKd], rfl⟩
  · refine V_iload dX1_sortOf_25 4 rfl ?_
    refine V_if_eq 32 dX1_sortOf_27 (by decide) (fun zc4 => ?_) (fun zc4 => ?_)
    · refine V_iload_n dX1_sortOf_32 3 rfl ?_
      refine V_iload dX1_sortOf_33 4 rfl ?_
      refine V_icmp_ne 40 dX1_sortOf_35 (by decide) (fun zc5 => ?_) (fun zc5 => ?_)
      · refine V_iload_n dX1_sortOf_40 3 rfl ?_
        refine V_if_ne 49 dX1_sortOf_41 (by decide) (fun zc6 => ?_) (fun zc6 => ?_)
        · refine V_iload_n dX1_sortOf_49 3 rfl ?_
          refine V_purS dX1_sortOf_50 lX1_101 (c_B_classOf w (bKind B ((B.2.2.2 n).2.2.2.2.2 3 k))) rfl rfl rfl ?_
          exact V_iret dX1_sortOf_53 rfl (nb rfl) (nb rfl) ⟨by grind [bSort, sortC, bKc, bKd], rfl⟩
        · refine V_iload dX1_sortOf_44 4 rfl ?_
          refine V_goto 50 dX1_sortOf_46 (by decide) ?_
          refine V_purS dX1_sortOf_50 lX1_101 (c_B_classOf w (bKind B ((B.2.2.2 n).2.2.2.2.2 4 k))) rfl rfl rfl ?_
          exact V_iret dX1_sortOf_53 rfl (nb rfl) (nb rfl) ⟨by grind [bSort, sortC, bKc, bKd], rfl⟩
      · refine V_iconst 5 dX1_sortOf_38 (by decide) ?_
        exact V_iret dX1_sortOf_39 rfl (nb rfl) (nb rfl) ⟨by grind [bSort, sortC, bKc, bKd], rfl⟩
    · refine V_iconst 4 dX1_sortOf_30 (by decide) ?_
      exact V_iret dX1_sortOf_31 rfl (nb rfl) (nb rfl) ⟨by grind [bSort, sortC, bKc, bKd], rfl⟩

set_option maxRecDepth 100000 in
set_option maxHeartbeats 4000000 in
theorem c_B_apartBy (w : vWd) (ab : Nat → Nat) (aj : Nat → Nat → Nat) (B : BP) (n k : Nat) (hn : n < 30) (hk : k < (B.2.2.2 n).2.2.2.1) (hB : okB B) : Ct w mX1_apartBy 3 0 0 [.ref (ab 0), .ref (aj n 0), .int (nI k)] (cB w ab aj B) (qE (some (.int (apC (bKc B n k) (bKd B n k) (bMv B n k)))) (cB w ab aj B)) := by
  refine Ct.of (L := [(0, .ref (ab 0)), (1, .ref (aj n 0)), (2, .int (nI k))]) (by decide) rfl rfl ?_
  obtain ⟨hB1, hB2, hB3⟩ := id hB
  have hJ := hB3 n hn
  refine V_aload_n dX1_apartBy_0 0 rfl ?_
  refine V_aload_n dX1_apartBy_1 1 rfl ?_
  refine V_iload_n dX1_apartBy_2 2 rfl ?_
  refine V_selfR dX1_apartBy_3 lX1_107 (c_B_sortOf w ab aj B n k (by omega) (by omega) hB) rfl rfl 0 rfl rfl rfl rfl ?_
  refine V_iconst 4 dX1_apartBy_6 (by decide) ?_
  refine V_icmp_eq 12 dX1_apartBy_7 (by decide) (fun zc1 => ?_) (fun zc1 => ?_)
  · refine V_aload_n dX1_apartBy_12 0 rfl ?_
    refine V_aload_n dX1_apartBy_13 1 rfl ?_
    refine V_iload_n dX1_apartBy_14 2 rfl ?_
    refine V_partR dX1_apartBy_15 lX1_95 (cB5 w ab aj B ++ cJx w aj B.2.2.2 n) (c_J_creditedOf_n w (aj n) (B.2.2.2 n) hJ k (by omega)) (cB_focus (by omega)) rfl rfl 0 rfl rfl rfl rfl ?_
    refine V_selfR dX1_apartBy_18 lX1_89 (c_B_kindOf w ab aj B ((B.2.2.2 n).2.2.2.2.2 3 k) hB) rfl rfl 0 rfl rfl rfl rfl ?_
    refine V_purS dX1_apartBy_21 lX1_101 (c_B_classOf w (bKind B ((B.2.2.2 n).2.2.2.2.2 3 k))) rfl rfl rfl ?_
    refine V_if_ne 31 dX1_apartBy_24 (by decide) (fun zc2 => ?_) (fun zc2 => ?_)
    · refine V_iconst 0 dX1_apartBy_31 (by decide) ?_
      refine V_istore_n dX1_apartBy_32 rfl (L' := [(0, .ref (ab 0)), (1, .ref (aj n 0)), (2, .int (nI k)), (3, .int 0)]) rfl ?_
      refine V_aload_n dX1_apartBy_33 0 rfl ?_
      refine V_aload_n dX1_apartBy_34 1 rfl ?_
      refine V_iload_n dX1_apartBy_35 2 rfl ?_
      refine V_partR dX1_apartBy_36 lX1_98 (cB5 w ab aj B ++ cJx w aj B.2.2.2 n) (c_J_debitedOf_n w (aj n) (B.2.2.2 n) hJ k (by omega)) (cB_focus (by omega)) rfl rfl 0 rfl rfl rfl rfl ?_
      refine V_selfR dX1_apartBy_39 lX1_89 (c_B_kindOf w ab aj B ((B.2.2.2 n).2.2.2.2.2 4 k) hB) rfl rfl 0 rfl rfl rfl rfl ?_
      refine V_purS dX1_apartBy_42 lX1_101 (c_B_classOf w (bKind B ((B.2.2.2 n).2.2.2.2.2 4 k))) rfl rfl rfl ?_
      refine V_if_ne 52 dX1_apartBy_45 (by decide) (fun zc3 => ?_) (fun zc3 => ?_)
      · refine V_iconst 0 dX1_apartBy_52 (by decide) ?_
        refine V_istore dX1_apartBy_53 rfl (L' := [(0, .ref (ab 0)), (1, .ref (aj n 0)), (2, .int (nI k)), (3, .int 0), (4, .int 0)]) rfl ?_
        refine V_iload_n dX1_apartBy_55 3 rfl ?_
        refine V_iload dX1_apartBy_56 4 rfl ?_
        refine V_icmp_ne_f 63 dX1_apartBy_58 (by decide) (by decide) ?_
        refine V_iconst 0 dX1_apartBy_61 (by decide) ?_
        exact V_iret dX1_apartBy_62 rfl (nb rfl) (nb rfl) ⟨by grind [apC, bSort, bKc, bKd, bMv], rfl⟩
      · refine V_iconst 1 dX1_apartBy_48 (by decide) ?_
        refine V_goto 53 dX1_apartBy_49 (by decide) ?_
        refine V_istore dX1_apartBy_53 rfl (L' := [(0, .ref (ab 0)), (1, .ref (aj n 0)), (2, .int (nI k)), (3, .int 0), (4, .int 1)]) rfl ?_
        refine V_iload_n dX1_apartBy_55 3 rfl ?_
        refine V_iload dX1_apartBy_56 4 rfl ?_
        refine V_icmp_ne_t 63 dX1_apartBy_58 (by decide) (by decide) ?_
        refine V_iload dX1_apartBy_63 4 rfl ?_
        refine V_if_eq_f 76 dX1_apartBy_65 (by decide) (by decide) ?_
        refine V_aload_n dX1_apartBy_68 1 rfl ?_
        refine V_iload_n dX1_apartBy_69 2 rfl ?_
        refine V_partR dX1_apartBy_70 lX1_111 (cB5 w ab aj B ++ cJx w aj B.2.2.2 n) (c_J_movedOf_n w (aj n) (B.2.2.2 n) hJ k (by omega)) (cB_focus (by omega)) rfl rfl 0 rfl rfl rfl rfl ?_
        refine V_goto 82 dX1_apartBy_73 (by decide) ?_
        exact V_iret dX1_apartBy_82 rfl (nb rfl) (nb rfl) ⟨by grind [apC, bSort, bKc, bKd, bMv], rfl⟩
    · refine V_iconst 1 dX1_apartBy_27 (by decide) ?_
      refine V_goto 32 dX1_apartBy_28 (by decide) ?_
      refine V_istore_n dX1_apartBy_32 rfl (L' := [(0, .ref (ab 0)), (1, .ref (aj n 0)), (2, .int (nI k)), (3, .int 1)]) rfl ?_
      refine V_aload_n dX1_apartBy_33 0 rfl ?_
      refine V_aload_n dX1_apartBy_34 1 rfl ?_
      refine V_iload_n dX1_apartBy_35 2 rfl ?_
      refine V_partR dX1_apartBy_36 lX1_98 (cB5 w ab aj B ++ cJx w aj B.2.2.2 n) (c_J_debitedOf_n w (aj n) (B.2.2.2 n) hJ k (by omega)) (cB_focus (by omega)) rfl rfl 0 rfl rfl rfl rfl ?_
      refine V_selfR dX1_apartBy_39 lX1_89 (c_B_kindOf w ab aj B ((B.2.2.2 n).2.2.2.2.2 4 k) hB) rfl rfl 0 rfl rfl rfl rfl ?_
      refine V_purS dX1_apartBy_42 lX1_101 (c_B_classOf w (bKind B ((B.2.2.2 n).2.2.2.2.2 4 k))) rfl rfl rfl ?_
      refine V_if_ne 52 dX1_apartBy_45 (by decide) (fun zc7 => ?_) (fun zc7 => ?_)
      · refine V_iconst 0 dX1_apartBy_52 (by decide) ?_
        refine V_istore dX1_apartBy_53 rfl (L' := [(0, .ref (ab 0)), (1, .ref (aj n 0)), (2, .int (nI k)), (3, .int 1), (4, .int 0)]) rfl ?_
        refine V_iload_n dX1_apartBy_55 3 rfl ?_
        refine V_iload dX1_apartBy_56 4 rfl ?_
        refine V_icmp_ne_t 63 dX1_apartBy_58 (by decide) (by decide) ?_
        refine V_iload dX1_apartBy_63 4 rfl ?_
        refine V_if_eq_t 76 dX1_apartBy_65 (by decide) (by decide) ?_
        refine V_aload_n dX1_apartBy_76 1 rfl ?_
        refine V_iload_n dX1_apartBy_77 2 rfl ?_
        refine V_partR dX1_apartBy_78 lX1_111 (cB5 w ab aj B ++ cJx w aj B.2.2.2 n) (c_J_movedOf_n w (aj n) (B.2.2.2 n) hJ k (by omega)) (cB_focus (by omega)) rfl rfl 0 rfl rfl rfl rfl ?_
        refine V_ineg dX1_apartBy_81 ?_
        exact V_iret dX1_apartBy_82 rfl (nb rfl) (nb rfl) ⟨by grind [apC, bSort, bKc, bKd, bMv], rfl⟩
      · refine V_iconst 1 dX1_apartBy_48 (by decide) ?_
        refine V_goto 53 dX1_apartBy_49 (by decide) ?_
        refine V_istore dX1_apartBy_53 rfl (L' := [(0, .ref (ab 0)), (1, .ref (aj n 0)), (2, .int (nI k)), (3, .int 1), (4, .int 1)]) rfl ?_
        refine V_iload_n dX1_apartBy_55 3 rfl ?_
        refine V_iload dX1_apartBy_56 4 rfl ?_
        refine V_icmp_ne_f 63 dX1_apartBy_58 (by decide) (by decide) ?_
        refine V_iconst 0 dX1_apartBy_61 (by decide) ?_
        exact V_iret dX1_apartBy_62 rfl (nb rfl) (nb rfl) ⟨by grind [apC, bSort, bKc, bKd, bMv], rfl⟩
  · refine V_iconst 0 dX1_apartBy_10 (by decide) ?_
    exact V_iret dX1_apartBy_11 rfl (nb rfl) (nb rfl) ⟨by grind [apC, bSort, bKc, bKd, bMv], rfl⟩

set_option maxRecDepth 100000 in
set_option maxHeartbeats 4000000 in
theorem lpi_B_netOfKind (w : vWd) (ab : Nat → Nat) (aj : Nat → Nat → Nat) (B : BP) (kd : Int32) (f : Int32) (t : Int32) (hB : okB B) (n : Nat) (hn : n < B.2.1) (acc : Int32) (hnx : V w mX1_netOfKind (vc w 2 0 0 (qE (some (.int (isum (fun n => if bCnt B n f t then isum (fun k => if bKind B ((B.2.2.2 n).2.2.2.2.2 0 k) = kd then (B.2.2.2 n).2.2.2.2.2 1 k else 0) ((B.2.2.2 n).2.1) else 0) B.2.1))) (cB w ab aj B))) 0 0 83 [(0, .ref (ab 0)), (1, .int kd), (2, .int f), (3, .int t), (4, .int (acc + isum (fun k => if bKind B ((B.2.2.2 n).2.2.2.2.2 0 k) = kd then (B.2.2.2 n).2.2.2.2.2 1 k else 0) ((B.2.2.2 n).2.1))), (5, .int (nI n)), (6, .ref (aj n 0)), (7, .int (nI ((B.2.2.2 n).2.1)))] [] (cB w ab aj B)) : ∀ (m : Nat) (k : Nat), ((B.2.2.2 n).2.1 + 1 ≤ k + m) → (k ≤ (B.2.2.2 n).2.1) → V w mX1_netOfKind (vc w 2 0 0 (qE (some (.int (isum (fun n => if bCnt B n f t then isum (fun k => if bKind B ((B.2.2.2 n).2.2.2.2.2 0 k) = kd then (B.2.2.2 n).2.2.2.2.2 1 k else 0) ((B.2.2.2 n).2.1) else 0) B.2.1))) (cB w ab aj B))) 0 0 36 [(0, .ref (ab 0)), (1, .int kd), (2, .int f), (3, .int t), (4, .int (acc + isum (fun k => if bKind B ((B.2.2.2 n).2.2.2.2.2 0 k) = kd then (B.2.2.2 n).2.2.2.2.2 1 k else 0) k)), (5, .int (nI n)), (6, .ref (aj n 0)), (7, .int (nI k))] [] (cB w ab aj B) := by
  intro m
  induction m with
  | zero =>
    intro k h1 h2
    exact absurd h1 (by omega)
  | succ m ih =>
    intro k h1 h2
    obtain ⟨hB1, hB2, hB3⟩ := id hB
    have hJ := hB3 n (by omega)
    obtain ⟨hJ1, hJ2, hJ3⟩ := id hJ
    refine V_iload dX1_netOfKind_36 7 rfl ?_
    refine V_aload dX1_netOfKind_38 6 rfl ?_
    refine V_partR dX1_netOfKind_40 lX1_82 (cB5 w ab aj B ++ cJx w aj B.2.2.2 n) (c_J_lines w (aj n) (B.2.2.2 n)) (cB_focus (by omega)) rfl rfl 0 rfl rfl rfl rfl ?_
    refine V_icmp_ge_n k ((B.2.2.2 n).2.1) 83 dX1_netOfKind_43 (by decide) (by omega) (by omega) (fun zc1 => ?_) (fun zc1 => ?_)
    · have hke : k = (B.2.2.2 n).2.1 := by omega
      subst hke
      exact hnx
    · refine V_iload dX1_netOfKind_46 4 rfl ?_
      refine V_aload_n dX1_netOfKind_48 0 rfl ?_
      refine V_aload dX1_netOfKind_49 6 rfl ?_
      refine V_iload dX1_netOfKind_51 7 rfl ?_
      refine V_partR dX1_netOfKind_53 lX1_86 (cB5 w ab aj B ++ cJx w aj B.2.2.2 n) (c_J_accountOf_n w (aj n) (B.2.2.2 n) hJ k (by omega)) (cB_focus (by omega)) rfl rfl 0 rfl rfl rfl rfl ?_
      refine V_selfR dX1_netOfKind_56 lX1_89 (c_B_kindOf w ab aj B ((B.2.2.2 n).2.2.2.2.2 0 k) hB) rfl rfl 0 rfl rfl rfl rfl ?_
      refine V_iload_n dX1_netOfKind_59 1 rfl ?_
      refine V_icmp_ne 73 dX1_netOfKind_60 (by decide) (fun zc2 => ?_) (fun zc2 => ?_)
      · refine V_iconst 0 dX1_netOfKind_73 (by decide) ?_
        refine V_iadd dX1_netOfKind_74 ?_
        refine V_istore dX1_netOfKind_75 rfl (L' := [(0, .ref (ab 0)), (1, .int kd), (2, .int f), (3, .int t), (4, .int ((acc + isum (fun k => if bKind B ((B.2.2.2 n).2.2.2.2.2 0 k) = kd then (B.2.2.2 n).2.2.2.2.2 1 k else 0) k) + 0)), (5, .int (nI n)), (6, .ref (aj n 0)), (7, .int (nI k))]) rfl ?_
        refine V_iinc (nI (k + 1)) dX1_netOfKind_77 7 rfl (nI_i1 k) rfl (L' := [(0, .ref (ab 0)), (1, .int kd), (2, .int f), (3, .int t), (4, .int ((acc + isum (fun k => if bKind B ((B.2.2.2 n).2.2.2.2.2 0 k) = kd then (B.2.2.2 n).2.2.2.2.2 1 k else 0) k) + 0)), (5, .int (nI n)), (6, .ref (aj n 0)), (7, .int (nI (k + 1)))]) rfl ?_
        refine V_goto 36 dX1_netOfKind_80 (by decide) ?_
        rw [show (acc + isum (fun k => if bKind B ((B.2.2.2 n).2.2.2.2.2 0 k) = kd then (B.2.2.2 n).2.2.2.2.2 1 k else 0) k) + 0 = acc + isum (fun k => if bKind B ((B.2.2.2 n).2.2.2.2.2 0 k) = kd then (B.2.2.2 n).2.2.2.2.2 1 k else 0) (k + 1) by rw [← isum_s] <;> grind [bSort, bKc, bKd, bMv]]
        exact ih (k + 1) (by omega) (by omega)
      · refine V_aload dX1_netOfKind_63 6 rfl ?_
        refine V_iload dX1_netOfKind_65 7 rfl ?_
        refine V_partR dX1_netOfKind_67 lX1_92 (cB5 w ab aj B ++ cJx w aj B.2.2.2 n) (c_J_amountOf_n w (aj n) (B.2.2.2 n) hJ k (by omega)) (cB_focus (by omega)) rfl rfl 0 rfl rfl rfl rfl ?_
        refine V_goto 74 dX1_netOfKind_70 (by decide) ?_
        refine V_iadd dX1_netOfKind_74 ?_
        refine V_istore dX1_netOfKind_75 rfl (L' := [(0, .ref (ab 0)), (1, .int kd), (2, .int f), (3, .int t), (4, .int ((acc + isum (fun k => if bKind B ((B.2.2.2 n).2.2.2.2.2 0 k) = kd then (B.2.2.2 n).2.2.2.2.2 1 k else 0) k) + ((B.2.2.2 n).2.2.2.2.2 1 k))), (5, .int (nI n)), (6, .ref (aj n 0)), (7, .int (nI k))]) rfl ?_
        refine V_iinc (nI (k + 1)) dX1_netOfKind_77 7 rfl (nI_i1 k) rfl (L' := [(0, .ref (ab 0)), (1, .int kd), (2, .int f), (3, .int t), (4, .int ((acc + isum (fun k => if bKind B ((B.2.2.2 n).2.2.2.2.2 0 k) = kd then (B.2.2.2 n).2.2.2.2.2 1 k else 0) k) + ((B.2.2.2 n).2.2.2.2.2 1 k))), (5, .int (nI n)), (6, .ref (aj n 0)), (7, .int (nI (k + 1)))]) rfl ?_
        refine V_goto 36 dX1_netOfKind_80 (by decide) ?_
        rw [show (acc + isum (fun k => if bKind B ((B.2.2.2 n).2.2.2.2.2 0 k) = kd then (B.2.2.2 n).2.2.2.2.2 1 k else 0) k) + ((B.2.2.2 n).2.2.2.2.2 1 k) = acc + isum (fun k => if bKind B ((B.2.2.2 n).2.2.2.2.2 0 k) = kd then (B.2.2.2 n).2.2.2.2.2 1 k else 0) (k + 1) by rw [← isum_s] <;> grind [bSort, bKc, bKd, bMv]]
        exact ih (k + 1) (by omega) (by omega)

set_option maxRecDepth 100000 in
set_option maxHeartbeats 4000000 in
theorem lp_B_netOfKind (w : vWd) (ab : Nat → Nat) (aj : Nat → Nat → Nat) (B : BP) (kd : Int32) (f : Int32) (t : Int32) (hB : okB B) : ∀ (m : Nat) (n : Nat), (B.2.1 + 1 ≤ n + m) → (n ≤ B.2.1) → V w mX1_netOfKind (vc w 2 0 0 (qE (some (.int (isum (fun n => if bCnt B n f t then isum (fun k => if bKind B ((B.2.2.2 n).2.2.2.2.2 0 k) = kd then (B.2.2.2 n).2.2.2.2.2 1 k else 0) ((B.2.2.2 n).2.1) else 0) B.2.1))) (cB w ab aj B))) 0 0 6 [(0, .ref (ab 0)), (1, .int kd), (2, .int f), (3, .int t), (4, .int (isum (fun n => if bCnt B n f t then isum (fun k => if bKind B ((B.2.2.2 n).2.2.2.2.2 0 k) = kd then (B.2.2.2 n).2.2.2.2.2 1 k else 0) ((B.2.2.2 n).2.1) else 0) n)), (5, .int (nI n))] [] (cB w ab aj B) := by
  intro m
  induction m with
  | zero =>
    intro n h1 h2
    exact absurd h1 (by omega)
  | succ m ih =>
    intro n h1 h2
    obtain ⟨hB1, hB2, hB3⟩ := id hB
    refine V_iload dX1_netOfKind_6 5 rfl ?_
    refine V_aload_n dX1_netOfKind_8 0 rfl ?_
    refine V_get dX1_netOfKind_9 fX1_31 0 rfl rfl ?_
    refine V_icmp_ge_n n B.2.1 89 dX1_netOfKind_12 (by decide) (by omega) (by omega) (fun zc1 => ?_) (fun zc1 => ?_)
    · refine V_iload dX1_netOfKind_89 4 rfl ?_
      exact V_iret dX1_netOfKind_91 rfl (nb rfl) (nb rfl) ⟨by rw [show n = B.2.1 by omega], rfl⟩
    · refine V_aload_n dX1_netOfKind_15 0 rfl ?_
      refine V_iload dX1_netOfKind_16 5 rfl ?_
      refine V_iload_n dX1_netOfKind_18 2 rfl ?_
      refine V_iload_n dX1_netOfKind_19 3 rfl ?_
      refine V_selfR dX1_netOfKind_20 lX1_72 (c_B_counting w ab aj B n f t (by omega) hB) rfl rfl 0 rfl rfl rfl rfl ?_
      by_cases hc : bCnt B n f t = true
      · refine V_castv (y := .ref (aj n 0)) (if_pos hc) ?_
        refine V_astore dX1_netOfKind_23 rfl (L' := [(0, .ref (ab 0)), (1, .int kd), (2, .int f), (3, .int t), (4, .int (isum (fun n => if bCnt B n f t then isum (fun k => if bKind B ((B.2.2.2 n).2.2.2.2.2 0 k) = kd then (B.2.2.2 n).2.2.2.2.2 1 k else 0) ((B.2.2.2 n).2.1) else 0) n)), (5, .int (nI n)), (6, .ref (aj n 0))]) rfl ?_
        refine V_aload dX1_netOfKind_25 6 rfl ?_
        refine V_ifnonnull 33 dX1_netOfKind_27 (by decide) ?_
        refine V_iconst 0 dX1_netOfKind_33 (by decide) ?_
        refine V_istore dX1_netOfKind_34 rfl (L' := [(0, .ref (ab 0)), (1, .int kd), (2, .int f), (3, .int t), (4, .int (isum (fun n => if bCnt B n f t then isum (fun k => if bKind B ((B.2.2.2 n).2.2.2.2.2 0 k) = kd then (B.2.2.2 n).2.2.2.2.2 1 k else 0) ((B.2.2.2 n).2.1) else 0) n)), (5, .int (nI n)), (6, .ref (aj n 0)), (7, .int 0)]) rfl ?_
        have hcl : bCnt B n f t = true := hc
        refine V_L ?_ (lpi_B_netOfKind w ab aj B kd f t hB n (by omega) (isum (fun n => if bCnt B n f t then isum (fun k => if bKind B ((B.2.2.2 n).2.2.2.2.2 0 k) = kd then (B.2.2.2 n).2.2.2.2.2 1 k else 0) ((B.2.2.2 n).2.1) else 0) n) ?_ ((B.2.2.2 n).2.1 + 1) 0 (by omega) (by omega))
        · rw [← isum_0]; rfl
        · refine V_iinc (nI (n + 1)) dX1_netOfKind_83 5 rfl (nI_i1 n) rfl (L' := [(0, .ref (ab 0)), (1, .int kd), (2, .int f), (3, .int t), (4, .int (isum (fun n => if bCnt B n f t then isum (fun k => if bKind B ((B.2.2.2 n).2.2.2.2.2 0 k) = kd then (B.2.2.2 n).2.2.2.2.2 1 k else 0) ((B.2.2.2 n).2.1) else 0) n + isum (fun k => if bKind B ((B.2.2.2 n).2.2.2.2.2 0 k) = kd then (B.2.2.2 n).2.2.2.2.2 1 k else 0) ((B.2.2.2 n).2.1))), (5, .int (nI (n + 1))), (6, .ref (aj n 0)), (7, .int (nI ((B.2.2.2 n).2.1)))]) rfl ?_
          refine V_goto 6 dX1_netOfKind_86 (by decide) ?_
          refine V_dropL (L' := [(0, .ref (ab 0)), (1, .int kd), (2, .int f), (3, .int t), (4, .int (isum (fun n => if bCnt B n f t then isum (fun k => if bKind B ((B.2.2.2 n).2.2.2.2.2 0 k) = kd then (B.2.2.2 n).2.2.2.2.2 1 k else 0) ((B.2.2.2 n).2.1) else 0) n + isum (fun k => if bKind B ((B.2.2.2 n).2.2.2.2.2 0 k) = kd then (B.2.2.2 n).2.2.2.2.2 1 k else 0) ((B.2.2.2 n).2.1))), (5, .int (nI (n + 1)))]) (L'' := [(6, .ref (aj n 0)), (7, .int (nI ((B.2.2.2 n).2.1)))]) rfl ?_
          rw [show isum (fun n => if bCnt B n f t then isum (fun k => if bKind B ((B.2.2.2 n).2.2.2.2.2 0 k) = kd then (B.2.2.2 n).2.2.2.2.2 1 k else 0) ((B.2.2.2 n).2.1) else 0) n + isum (fun k => if bKind B ((B.2.2.2 n).2.2.2.2.2 0 k) = kd then (B.2.2.2 n).2.2.2.2.2 1 k else 0) ((B.2.2.2 n).2.1) = isum (fun n => if bCnt B n f t then isum (fun k => if bKind B ((B.2.2.2 n).2.2.2.2.2 0 k) = kd then (B.2.2.2 n).2.2.2.2.2 1 k else 0) ((B.2.2.2 n).2.1) else 0) (n + 1) by rw [isum, if_pos hc]]
          exact ih (n + 1) (by omega) (by omega)
      · refine V_castv (y := .null) (if_neg hc) ?_
        refine V_astoreN dX1_netOfKind_23 rfl (L' := [(0, .ref (ab 0)), (1, .int kd), (2, .int f), (3, .int t), (4, .int (isum (fun n => if bCnt B n f t then isum (fun k => if bKind B ((B.2.2.2 n).2.2.2.2.2 0 k) = kd then (B.2.2.2 n).2.2.2.2.2 1 k else 0) ((B.2.2.2 n).2.1) else 0) n)), (5, .int (nI n)), (6, .null)]) rfl ?_
        refine V_aloadN dX1_netOfKind_25 6 rfl ?_
        refine V_ifnonnullN dX1_netOfKind_27 ?_
        refine V_goto 83 dX1_netOfKind_30 (by decide) ?_
        refine V_iinc (nI (n + 1)) dX1_netOfKind_83 5 rfl (nI_i1 n) rfl (L' := [(0, .ref (ab 0)), (1, .int kd), (2, .int f), (3, .int t), (4, .int (isum (fun n => if bCnt B n f t then isum (fun k => if bKind B ((B.2.2.2 n).2.2.2.2.2 0 k) = kd then (B.2.2.2 n).2.2.2.2.2 1 k else 0) ((B.2.2.2 n).2.1) else 0) n)), (5, .int (nI (n + 1))), (6, .null)]) rfl ?_
        refine V_goto 6 dX1_netOfKind_86 (by decide) ?_
        refine V_dropL (L' := [(0, .ref (ab 0)), (1, .int kd), (2, .int f), (3, .int t), (4, .int (isum (fun n => if bCnt B n f t then isum (fun k => if bKind B ((B.2.2.2 n).2.2.2.2.2 0 k) = kd then (B.2.2.2 n).2.2.2.2.2 1 k else 0) ((B.2.2.2 n).2.1) else 0) n)), (5, .int (nI (n + 1)))]) (L'' := [(6, .null)]) rfl ?_
        rw [show isum (fun n => if bCnt B n f t then isum (fun k => if bKind B ((B.2.2.2 n).2.2.2.2.2 0 k) = kd then (B.2.2.2 n).2.2.2.2.2 1 k else 0) ((B.2.2.2 n).2.1) else 0) n = isum (fun n => if bCnt B n f t then isum (fun k => if bKind B ((B.2.2.2 n).2.2.2.2.2 0 k) = kd then (B.2.2.2 n).2.2.2.2.2 1 k else 0) ((B.2.2.2 n).2.1) else 0) (n + 1) by rw [isum, if_neg hc]; rw [Int32.add_zero]]
        exact ih (n + 1) (by omega) (by omega)

set_option maxRecDepth 100000 in
set_option maxHeartbeats 4000000 in
theorem c_B_netOfKind (w : vWd) (ab : Nat → Nat) (aj : Nat → Nat → Nat) (B : BP) (kd : Int32) (f : Int32) (t : Int32) (hB : okB B) : Ct w mX1_netOfKind 2 0 0 [.ref (ab 0), .int kd, .int f, .int t] (cB w ab aj B) (qE (some (.int (isum (fun n => if bCnt B n f t then isum (fun k => if bKind B ((B.2.2.2 n).2.2.2.2.2 0 k) = kd then (B.2.2.2 n).2.2.2.2.2 1 k else 0) ((B.2.2.2 n).2.1) else 0) B.2.1))) (cB w ab aj B)) := by
  refine Ct.of (L := [(0, .ref (ab 0)), (1, .int kd), (2, .int f), (3, .int t)]) (by decide) rfl rfl ?_
  refine V_iconst 0 dX1_netOfKind_0 (by decide) ?_
  refine V_istore dX1_netOfKind_1 rfl (L' := [(0, .ref (ab 0)), (1, .int kd), (2, .int f), (3, .int t), (4, .int 0)]) rfl ?_
  refine V_iconst 0 dX1_netOfKind_3 (by decide) ?_
  refine V_istore dX1_netOfKind_4 rfl (L' := [(0, .ref (ab 0)), (1, .int kd), (2, .int f), (3, .int t), (4, .int 0), (5, .int 0)]) rfl ?_
  exact lp_B_netOfKind w ab aj B kd f t hB (B.2.1 + 1) 0 (by omega) (by omega)

set_option maxRecDepth 100000 in
set_option maxHeartbeats 4000000 in
theorem lpi_B_cashMoved (w : vWd) (ab : Nat → Nat) (aj : Nat → Nat → Nat) (B : BP) (so : Int32) (ci : Bool) (f : Int32) (t : Int32) (hB : okB B) (n : Nat) (hn : n < B.2.1) (acc : Int32) (hnx : V w mX1_cashMoved (vc w 3 0 0 (qE (some (.int (isum (fun n => if bCnt B n f t then isum (fun k => if decide (bKd B n k = 0) = ci ∧ bSort B n k = so then bMv B n k else 0) ((B.2.2.2 n).2.2.2.1) else 0) B.2.1))) (cB w ab aj B))) 0 0 108 [(0, .ref (ab 0)), (1, .int so), (2, .int (bi (ci))), (3, .int f), (4, .int t), (5, .int (acc + isum (fun k => if decide (bKd B n k = 0) = ci ∧ bSort B n k = so then bMv B n k else 0) ((B.2.2.2 n).2.2.2.1))), (6, .int (nI n)), (7, .ref (aj n 0)), (8, .int (nI ((B.2.2.2 n).2.2.2.1)))] [] (cB w ab aj B)) : ∀ (m : Nat) (k : Nat), ((B.2.2.2 n).2.2.2.1 + 1 ≤ k + m) → (k ≤ (B.2.2.2 n).2.2.2.1) → V w mX1_cashMoved (vc w 3 0 0 (qE (some (.int (isum (fun n => if bCnt B n f t then isum (fun k => if decide (bKd B n k = 0) = ci ∧ bSort B n k = so then bMv B n k else 0) ((B.2.2.2 n).2.2.2.1) else 0) B.2.1))) (cB w ab aj B))) 0 0 37 [(0, .ref (ab 0)), (1, .int so), (2, .int (bi (ci))), (3, .int f), (4, .int t), (5, .int (acc + isum (fun k => if decide (bKd B n k = 0) = ci ∧ bSort B n k = so then bMv B n k else 0) k)), (6, .int (nI n)), (7, .ref (aj n 0)), (8, .int (nI k))] [] (cB w ab aj B) := by
  intro m
  induction m with
  | zero =>
    intro k h1 h2
    exact absurd h1 (by omega)
  | succ m ih =>
    intro k h1 h2
    obtain ⟨hB1, hB2, hB3⟩ := id hB
    have hJ := hB3 n (by omega)
    obtain ⟨hJ1, hJ2, hJ3⟩ := id hJ
    refine V_iload dX1_cashMoved_37 8 rfl ?_
    refine V_aload dX1_cashMoved_39 7 rfl ?_
    refine V_partR dX1_cashMoved_41 lX1_104 (cB5 w ab aj B ++ cJx w aj B.2.2.2 n) (c_J_pieces w (aj n) (B.2.2.2 n)) (cB_focus (by omega)) rfl rfl 0 rfl rfl rfl rfl ?_
    refine V_icmp_ge_n k ((B.2.2.2 n).2.2.2.1) 108 dX1_cashMoved_44 (by decide) (by omega) (by omega) (fun zc1 => ?_) (fun zc1 => ?_)
    · have hke : k = (B.2.2.2 n).2.2.2.1 := by omega
      subst hke
      exact hnx
    · refine V_aload_n dX1_cashMoved_47 0 rfl ?_
      refine V_aload dX1_cashMoved_48 7 rfl ?_
      refine V_iload dX1_cashMoved_50 8 rfl ?_
      refine V_partR dX1_cashMoved_52 lX1_98 (cB5 w ab aj B ++ cJx w aj B.2.2.2 n) (c_J_debitedOf_n w (aj n) (B.2.2.2 n) hJ k (by omega)) (cB_focus (by omega)) rfl rfl 0 rfl rfl rfl rfl ?_
      refine V_selfR dX1_cashMoved_55 lX1_89 (c_B_kindOf w ab aj B ((B.2.2.2 n).2.2.2.2.2 4 k) hB) rfl rfl 0 rfl rfl rfl rfl ?_
      refine V_if_ne 65 dX1_cashMoved_58 (by decide) (fun zc2 => ?_) (fun zc2 => ?_)
      · refine V_iconst 0 dX1_cashMoved_65 (by decide) ?_
        refine V_istore dX1_cashMoved_66 rfl (L' := [(0, .ref (ab 0)), (1, .int so), (2, .int (bi (ci))), (3, .int f), (4, .int t), (5, .int (acc + isum (fun k => if decide (bKd B n k = 0) = ci ∧ bSort B n k = so then bMv B n k else 0) k)), (6, .int (nI n)), (7, .ref (aj n 0)), (8, .int (nI k)), (9, .int 0)]) rfl ?_
        refine V_iload dX1_cashMoved_68 5 rfl ?_
        refine V_iload dX1_cashMoved_70 9 rfl ?_
        refine V_iload_n dX1_cashMoved_72 2 rfl ?_
        refine V_icmp_ne 98 dX1_cashMoved_73 (by decide) (fun zc3 => ?_) (fun zc3 => ?_)
        · refine V_iconst 0 dX1_cashMoved_98 (by decide) ?_
          refine V_iadd dX1_cashMoved_99 ?_
          refine V_istore dX1_cashMoved_100 rfl (L' := [(0, .ref (ab 0)), (1, .int so), (2, .int (bi (ci))), (3, .int f), (4, .int t), (5, .int ((acc + isum (fun k => if decide (bKd B n k = 0) = ci ∧ bSort B n k = so then bMv B n k else 0) k) + 0)), (6, .int (nI n)), (7, .ref (aj n 0)), (8, .int (nI k)), (9, .int 0)]) rfl ?_
          refine V_iinc (nI (k + 1)) dX1_cashMoved_102 8 rfl (nI_i1 k) rfl (L' := [(0, .ref (ab 0)), (1, .int so), (2, .int (bi (ci))), (3, .int f), (4, .int t), (5, .int ((acc + isum (fun k => if decide (bKd B n k = 0) = ci ∧ bSort B n k = so then bMv B n k else 0) k) + 0)), (6, .int (nI n)), (7, .ref (aj n 0)), (8, .int (nI (k + 1))), (9, .int 0)]) rfl ?_
          refine V_goto 37 dX1_cashMoved_105 (by decide) ?_
          refine V_dropL (L' := [(0, .ref (ab 0)), (1, .int so), (2, .int (bi (ci))), (3, .int f), (4, .int t), (5, .int ((acc + isum (fun k => if decide (bKd B n k = 0) = ci ∧ bSort B n k = so then bMv B n k else 0) k) + 0)), (6, .int (nI n)), (7, .ref (aj n 0)), (8, .int (nI (k + 1)))]) (L'' := [(9, .int 0)]) rfl ?_
          rw [show (acc + isum (fun k => if decide (bKd B n k = 0) = ci ∧ bSort B n k = so then bMv B n k else 0) k) + 0 = acc + isum (fun k => if decide (bKd B n k = 0) = ci ∧ bSort B n k = so then bMv B n k else 0) (k + 1) by rw [← isum_s] <;> grind [bSort, bKc, bKd, bMv, bi]]
          exact ih (k + 1) (by omega) (by omega)
        · refine V_aload_n dX1_cashMoved_76 0 rfl ?_
          refine V_aload dX1_cashMoved_77 7 rfl ?_
          refine V_iload dX1_cashMoved_79 8 rfl ?_
          refine V_selfR dX1_cashMoved_81 lX1_107 (c_B_sortOf w ab aj B n k (by omega) (by omega) hB) rfl rfl 0 rfl rfl rfl rfl ?_
          refine V_iload_n dX1_cashMoved_84 1 rfl ?_
          refine V_icmp_ne 98 dX1_cashMoved_85 (by decide) (fun zc4 => ?_) (fun zc4 => ?_)
          · refine V_iconst 0 dX1_cashMoved_98 (by decide) ?_
            refine V_iadd dX1_cashMoved_99 ?_
            refine V_istore dX1_cashMoved_100 rfl (L' := [(0, .ref (ab 0)), (1, .int so), (2, .int (bi (ci))), (3, .int f), (4, .int t), (5, .int ((acc + isum (fun k => if decide (bKd B n k = 0) = ci ∧ bSort B n k = so then bMv B n k else 0) k) + 0)), (6, .int (nI n)), (7, .ref (aj n 0)), (8, .int (nI k)), (9, .int 0)]) rfl ?_
            refine V_iinc (nI (k + 1)) dX1_cashMoved_102 8 rfl (nI_i1 k) rfl (L' := [(0, .ref (ab 0)), (1, .int so), (2, .int (bi (ci))), (3, .int f), (4, .int t), (5, .int ((acc + isum (fun k => if decide (bKd B n k = 0) = ci ∧ bSort B n k = so then bMv B n k else 0) k) + 0)), (6, .int (nI n)), (7, .ref (aj n 0)), (8, .int (nI (k + 1))), (9, .int 0)]) rfl ?_
            refine V_goto 37 dX1_cashMoved_105 (by decide) ?_
            refine V_dropL (L' := [(0, .ref (ab 0)), (1, .int so), (2, .int (bi (ci))), (3, .int f), (4, .int t), (5, .int ((acc + isum (fun k => if decide (bKd B n k = 0) = ci ∧ bSort B n k = so then bMv B n k else 0) k) + 0)), (6, .int (nI n)), (7, .ref (aj n 0)), (8, .int (nI (k + 1)))]) (L'' := [(9, .int 0)]) rfl ?_
            rw [show (acc + isum (fun k => if decide (bKd B n k = 0) = ci ∧ bSort B n k = so then bMv B n k else 0) k) + 0 = acc + isum (fun k => if decide (bKd B n k = 0) = ci ∧ bSort B n k = so then bMv B n k else 0) (k + 1) by rw [← isum_s] <;> grind [bSort, bKc, bKd, bMv, bi]]
            exact ih (k + 1) (by omega) (by omega)
          · refine V_aload dX1_cashMoved_88 7 rfl ?_
            refine V_iload dX1_cashMoved_90 8 rfl ?_
            refine V_partR dX1_cashMoved_92 lX1_111 (cB5 w ab aj B ++ cJx w aj B.2.2.2 n) (c_J_movedOf_n w (aj n) (B.2.2.2 n) hJ k (by omega)) (cB_focus (by omega)) rfl rfl 0 rfl rfl rfl rfl ?_
            refine V_goto 99 dX1_cashMoved_95 (by decide) ?_
            refine V_iadd dX1_cashMoved_99 ?_
            refine V_istore dX1_cashMoved_100 rfl (L' := [(0, .ref (ab 0)), (1, .int so), (2, .int (bi (ci))), (3, .int f), (4, .int t), (5, .int ((acc + isum (fun k => if decide (bKd B n k = 0) = ci ∧ bSort B n k = so then bMv B n k else 0) k) + ((B.2.2.2 n).2.2.2.2.2 5 k))), (6, .int (nI n)), (7, .ref (aj n 0)), (8, .int (nI k)), (9, .int 0)]) rfl ?_
            refine V_iinc (nI (k + 1)) dX1_cashMoved_102 8 rfl (nI_i1 k) rfl (L' := [(0, .ref (ab 0)), (1, .int so), (2, .int (bi (ci))), (3, .int f), (4, .int t), (5, .int ((acc + isum (fun k => if decide (bKd B n k = 0) = ci ∧ bSort B n k = so then bMv B n k else 0) k) + ((B.2.2.2 n).2.2.2.2.2 5 k))), (6, .int (nI n)), (7, .ref (aj n 0)), (8, .int (nI (k + 1))), (9, .int 0)]) rfl ?_
            refine V_goto 37 dX1_cashMoved_105 (by decide) ?_
            refine V_dropL (L' := [(0, .ref (ab 0)), (1, .int so), (2, .int (bi (ci))), (3, .int f), (4, .int t), (5, .int ((acc + isum (fun k => if decide (bKd B n k = 0) = ci ∧ bSort B n k = so then bMv B n k else 0) k) + ((B.2.2.2 n).2.2.2.2.2 5 k))), (6, .int (nI n)), (7, .ref (aj n 0)), (8, .int (nI (k + 1)))]) (L'' := [(9, .int 0)]) rfl ?_
            rw [show (acc + isum (fun k => if decide (bKd B n k = 0) = ci ∧ bSort B n k = so then bMv B n k else 0) k) + ((B.2.2.2 n).2.2.2.2.2 5 k) = acc + isum (fun k => if decide (bKd B n k = 0) = ci ∧ bSort B n k = so then bMv B n k else 0) (k + 1) by rw [← isum_s] <;> grind [bSort, bKc, bKd, bMv, bi]]
            exact ih (k + 1) (by omega) (by omega)
      · refine V_iconst 1 dX1_cashMoved_61 (by decide) ?_
        refine V_goto 66 dX1_cashMoved_62 (by decide) ?_
        refine V_istore dX1_cashMoved_66 rfl (L' := [(0, .ref (ab 0)), (1, .int so), (2, .int (bi (ci))), (3, .int f), (4, .int t), (5, .int (acc + isum (fun k => if decide (bKd B n k = 0) = ci ∧ bSort B n k = so then bMv B n k else 0) k)), (6, .int (nI n)), (7, .ref (aj n 0)), (8, .int (nI k)), (9, .int 1)]) rfl ?_
        refine V_iload dX1_cashMoved_68 5 rfl ?_
        refine V_iload dX1_cashMoved_70 9 rfl ?_
        refine V_iload_n dX1_cashMoved_72 2 rfl ?_
        refine V_icmp_ne 98 dX1_cashMoved_73 (by decide) (fun zc5 => ?_) (fun zc5 => ?_)
        · refine V_iconst 0 dX1_cashMoved_98 (by decide) ?_
          refine V_iadd dX1_cashMoved_99 ?_
          refine V_istore dX1_cashMoved_100 rfl (L' := [(0, .ref (ab 0)), (1, .int so), (2, .int (bi (ci))), (3, .int f), (4, .int t), (5, .int ((acc + isum (fun k => if decide (bKd B n k = 0) = ci ∧ bSort B n k = so then bMv B n k else 0) k) + 0)), (6, .int (nI n)), (7, .ref (aj n 0)), (8, .int (nI k)), (9, .int 1)]) rfl ?_
          refine V_iinc (nI (k + 1)) dX1_cashMoved_102 8 rfl (nI_i1 k) rfl (L' := [(0, .ref (ab 0)), (1, .int so), (2, .int (bi (ci))), (3, .int f), (4, .int t), (5, .int ((acc + isum (fun k => if decide (bKd B n k = 0) = ci ∧ bSort B n k = so then bMv B n k else 0) k) + 0)), (6, .int (nI n)), (7, .ref (aj n 0)), (8, .int (nI (k + 1))), (9, .int 1)]) rfl ?_
          refine V_goto 37 dX1_cashMoved_105 (by decide) ?_
          refine V_dropL (L' := [(0, .ref (ab 0)), (1, .int so), (2, .int (bi (ci))), (3, .int f), (4, .int t), (5, .int ((acc + isum (fun k => if decide (bKd B n k = 0) = ci ∧ bSort B n k = so then bMv B n k else 0) k) + 0)), (6, .int (nI n)), (7, .ref (aj n 0)), (8, .int (nI (k + 1)))]) (L'' := [(9, .int 1)]) rfl ?_
          rw [show (acc + isum (fun k => if decide (bKd B n k = 0) = ci ∧ bSort B n k = so then bMv B n k else 0) k) + 0 = acc + isum (fun k => if decide (bKd B n k = 0) = ci ∧ bSort B n k = so then bMv B n k else 0) (k + 1) by rw [← isum_s] <;> grind [bSort, bKc, bKd, bMv, bi]]
          exact ih (k + 1) (by omega) (by omega)
        · refine V_aload_n dX1_cashMoved_76 0 rfl ?_
          refine V_aload dX1_cashMoved_77 7 rfl ?_
          refine V_iload dX1_cashMoved_79 8 rfl ?_
          refine V_selfR dX1_cashMoved_81 lX1_107 (c_B_sortOf w ab aj B n k (by omega) (by omega) hB) rfl rfl 0 rfl rfl rfl rfl ?_
          refine V_iload_n dX1_cashMoved_84 1 rfl ?_
          refine V_icmp_ne 98 dX1_cashMoved_85 (by decide) (fun zc6 => ?_) (fun zc6 => ?_)
          · refine V_iconst 0 dX1_cashMoved_98 (by decide) ?_
            refine V_iadd dX1_cashMoved_99 ?_
            refine V_istore dX1_cashMoved_100 rfl (L' := [(0, .ref (ab 0)), (1, .int so), (2, .int (bi (ci))), (3, .int f), (4, .int t), (5, .int ((acc + isum (fun k => if decide (bKd B n k = 0) = ci ∧ bSort B n k = so then bMv B n k else 0) k) + 0)), (6, .int (nI n)), (7, .ref (aj n 0)), (8, .int (nI k)), (9, .int 1)]) rfl ?_
            refine V_iinc (nI (k + 1)) dX1_cashMoved_102 8 rfl (nI_i1 k) rfl (L' := [(0, .ref (ab 0)), (1, .int so), (2, .int (bi (ci))), (3, .int f), (4, .int t), (5, .int ((acc + isum (fun k => if decide (bKd B n k = 0) = ci ∧ bSort B n k = so then bMv B n k else 0) k) + 0)), (6, .int (nI n)), (7, .ref (aj n 0)), (8, .int (nI (k + 1))), (9, .int 1)]) rfl ?_
            refine V_goto 37 dX1_cashMoved_105 (by decide) ?_
            refine V_dropL (L' := [(0, .ref (ab 0)), (1, .int so), (2, .int (bi (ci))), (3, .int f), (4, .int t), (5, .int ((acc + isum (fun k => if decide (bKd B n k = 0) = ci ∧ bSort B n k = so then bMv B n k else 0) k) + 0)), (6, .int (nI n)), (7, .ref (aj n 0)), (8, .int (nI (k + 1)))]) (L'' := [(9, .int 1)]) rfl ?_
            rw [show (acc + isum (fun k => if decide (bKd B n k = 0) = ci ∧ bSort B n k = so then bMv B n k else 0) k) + 0 = acc + isum (fun k => if decide (bKd B n k = 0) = ci ∧ bSort B n k = so then bMv B n k else 0) (k + 1) by rw [← isum_s] <;> grind [bSort, bKc, bKd, bMv, bi]]
            exact ih (k + 1) (by omega) (by omega)
          · refine V_aload dX1_cashMoved_88 7 rfl ?_
            refine V_iload dX1_cashMoved_90 8 rfl ?_
            refine V_partR dX1_cashMoved_92 lX1_111 (cB5 w ab aj B ++ cJx w aj B.2.2.2 n) (c_J_movedOf_n w (aj n) (B.2.2.2 n) hJ k (by omega)) (cB_focus (by omega)) rfl rfl 0 rfl rfl rfl rfl ?_
            refine V_goto 99 dX1_cashMoved_95 (by decide) ?_
            refine V_iadd dX1_cashMoved_99 ?_
            refine V_istore dX1_cashMoved_100 rfl (L' := [(0, .ref (ab 0)), (1, .int so), (2, .int (bi (ci))), (3, .int f), (4, .int t), (5, .int ((acc + isum (fun k => if decide (bKd B n k = 0) = ci ∧ bSort B n k = so then bMv B n k else 0) k) + ((B.2.2.2 n).2.2.2.2.2 5 k))), (6, .int (nI n)), (7, .ref (aj n 0)), (8, .int (nI k)), (9, .int 1)]) rfl ?_
            refine V_iinc (nI (k + 1)) dX1_cashMoved_102 8 rfl (nI_i1 k) rfl (L' := [(0, .ref (ab 0)), (1, .int so), (2, .int (bi (ci))), (3, .int f), (4, .int t), (5, .int ((acc + isum (fun k => if decide (bKd B n k = 0) = ci ∧ bSort B n k = so then bMv B n k else 0) k) + ((B.2.2.2 n).2.2.2.2.2 5 k))), (6, .int (nI n)), (7, .ref (aj n 0)), (8, .int (nI (k + 1))), (9, .int 1)]) rfl ?_
            refine V_goto 37 dX1_cashMoved_105 (by decide) ?_
            refine V_dropL (L' := [(0, .ref (ab 0)), (1, .int so), (2, .int (bi (ci))), (3, .int f), (4, .int t), (5, .int ((acc + isum (fun k => if decide (bKd B n k = 0) = ci ∧ bSort B n k = so then bMv B n k else 0) k) + ((B.2.2.2 n).2.2.2.2.2 5 k))), (6, .int (nI n)), (7, .ref (aj n 0)), (8, .int (nI (k + 1)))]) (L'' := [(9, .int 1)]) rfl ?_
            rw [show (acc + isum (fun k => if decide (bKd B n k = 0) = ci ∧ bSort B n k = so then bMv B n k else 0) k) + ((B.2.2.2 n).2.2.2.2.2 5 k) = acc + isum (fun k => if decide (bKd B n k = 0) = ci ∧ bSort B n k = so then bMv B n k else 0) (k + 1) by rw [← isum_s] <;> grind [bSort, bKc, bKd, bMv, bi]]
            exact ih (k + 1) (by omega) (by omega)

set_option maxRecDepth 100000 in
set_option maxHeartbeats 4000000 in
theorem lp_B_cashMoved (w : vWd) (ab : Nat → Nat) (aj : Nat → Nat → Nat) (B : BP) (so : Int32) (ci : Bool) (f : Int32) (t : Int32) (hB : okB B) : ∀ (m : Nat) (n : Nat), (B.2.1 + 1 ≤ n + m) → (n ≤ B.2.1) → V w mX1_cashMoved (vc w 3 0 0 (qE (some (.int (isum (fun n => if bCnt B n f t then isum (fun k => if decide (bKd B n k = 0) = ci ∧ bSort B n k = so then bMv B n k else 0) ((B.2.2.2 n).2.2.2.1) else 0) B.2.1))) (cB w ab aj B))) 0 0 6 [(0, .ref (ab 0)), (1, .int so), (2, .int (bi (ci))), (3, .int f), (4, .int t), (5, .int (isum (fun n => if bCnt B n f t then isum (fun k => if decide (bKd B n k = 0) = ci ∧ bSort B n k = so then bMv B n k else 0) ((B.2.2.2 n).2.2.2.1) else 0) n)), (6, .int (nI n))] [] (cB w ab aj B) := by
  intro m
  induction m with
  | zero =>
    intro n h1 h2
    exact absurd h1 (by omega)
  | succ m ih =>
    intro n h1 h2
    obtain ⟨hB1, hB2, hB3⟩ := id hB
    refine V_iload dX1_cashMoved_6 6 rfl ?_
    refine V_aload_n dX1_cashMoved_8 0 rfl ?_
    refine V_get dX1_cashMoved_9 fX1_31 0 rfl rfl ?_
    refine V_icmp_ge_n n B.2.1 114 dX1_cashMoved_12 (by decide) (by omega) (by omega) (fun zc1 => ?_) (fun zc1 => ?_)
    · refine V_iload dX1_cashMoved_114 5 rfl ?_
      exact V_iret dX1_cashMoved_116 rfl (nb rfl) (nb rfl) ⟨by rw [show n = B.2.1 by omega], rfl⟩
    · refine V_aload_n dX1_cashMoved_15 0 rfl ?_
      refine V_iload dX1_cashMoved_16 6 rfl ?_
      refine V_iload_n dX1_cashMoved_18 3 rfl ?_
      refine V_iload dX1_cashMoved_19 4 rfl ?_
      refine V_selfR dX1_cashMoved_21 lX1_72 (c_B_counting w ab aj B n f t (by omega) hB) rfl rfl 0 rfl rfl rfl rfl ?_
      by_cases hc : bCnt B n f t = true
      · refine V_castv (y := .ref (aj n 0)) (if_pos hc) ?_
        refine V_astore dX1_cashMoved_24 rfl (L' := [(0, .ref (ab 0)), (1, .int so), (2, .int (bi (ci))), (3, .int f), (4, .int t), (5, .int (isum (fun n => if bCnt B n f t then isum (fun k => if decide (bKd B n k = 0) = ci ∧ bSort B n k = so then bMv B n k else 0) ((B.2.2.2 n).2.2.2.1) else 0) n)), (6, .int (nI n)), (7, .ref (aj n 0))]) rfl ?_
        refine V_aload dX1_cashMoved_26 7 rfl ?_
        refine V_ifnonnull 34 dX1_cashMoved_28 (by decide) ?_
        refine V_iconst 0 dX1_cashMoved_34 (by decide) ?_
        refine V_istore dX1_cashMoved_35 rfl (L' := [(0, .ref (ab 0)), (1, .int so), (2, .int (bi (ci))), (3, .int f), (4, .int t), (5, .int (isum (fun n => if bCnt B n f t then isum (fun k => if decide (bKd B n k = 0) = ci ∧ bSort B n k = so then bMv B n k else 0) ((B.2.2.2 n).2.2.2.1) else 0) n)), (6, .int (nI n)), (7, .ref (aj n 0)), (8, .int 0)]) rfl ?_
        have hcl : bCnt B n f t = true := hc
        refine V_L ?_ (lpi_B_cashMoved w ab aj B so ci f t hB n (by omega) (isum (fun n => if bCnt B n f t then isum (fun k => if decide (bKd B n k = 0) = ci ∧ bSort B n k = so then bMv B n k else 0) ((B.2.2.2 n).2.2.2.1) else 0) n) ?_ ((B.2.2.2 n).2.2.2.1 + 1) 0 (by omega) (by omega))
        · rw [← isum_0]; rfl
        · refine V_iinc (nI (n + 1)) dX1_cashMoved_108 6 rfl (nI_i1 n) rfl (L' := [(0, .ref (ab 0)), (1, .int so), (2, .int (bi (ci))), (3, .int f), (4, .int t), (5, .int (isum (fun n => if bCnt B n f t then isum (fun k => if decide (bKd B n k = 0) = ci ∧ bSort B n k = so then bMv B n k else 0) ((B.2.2.2 n).2.2.2.1) else 0) n + isum (fun k => if decide (bKd B n k = 0) = ci ∧ bSort B n k = so then bMv B n k else 0) ((B.2.2.2 n).2.2.2.1))), (6, .int (nI (n + 1))), (7, .ref (aj n 0)), (8, .int (nI ((B.2.2.2 n).2.2.2.1)))]) rfl ?_
          refine V_goto 6 dX1_cashMoved_111 (by decide) ?_
          refine V_dropL (L' := [(0, .ref (ab 0)), (1, .int so), (2, .int (bi (ci))), (3, .int f), (4, .int t), (5, .int (isum (fun n => if bCnt B n f t then isum (fun k => if decide (bKd B n k = 0) = ci ∧ bSort B n k = so then bMv B n k else 0) ((B.2.2.2 n).2.2.2.1) else 0) n + isum (fun k => if decide (bKd B n k = 0) = ci ∧ bSort B n k = so then bMv B n k else 0) ((B.2.2.2 n).2.2.2.1))), (6, .int (nI (n + 1)))]) (L'' := [(7, .ref (aj n 0)), (8, .int (nI ((B.2.2.2 n).2.2.2.1)))]) rfl ?_
          rw [show isum (fun n => if bCnt B n f t then isum (fun k => if decide (bKd B n k = 0) = ci ∧ bSort B n k = so then bMv B n k else 0) ((B.2.2.2 n).2.2.2.1) else 0) n + isum (fun k => if decide (bKd B n k = 0) = ci ∧ bSort B n k = so then bMv B n k else 0) ((B.2.2.2 n).2.2.2.1) = isum (fun n => if bCnt B n f t then isum (fun k => if decide (bKd B n k = 0) = ci ∧ bSort B n k = so then bMv B n k else 0) ((B.2.2.2 n).2.2.2.1) else 0) (n + 1) by rw [isum, if_pos hc]]
          exact ih (n + 1) (by omega) (by omega)
      · refine V_castv (y := .null) (if_neg hc) ?_
        refine V_astoreN dX1_cashMoved_24 rfl (L' := [(0, .ref (ab 0)), (1, .int so), (2, .int (bi (ci))), (3, .int f), (4, .int t), (5, .int (isum (fun n => if bCnt B n f t then isum (fun k => if decide (bKd B n k = 0) = ci ∧ bSort B n k = so then bMv B n k else 0) ((B.2.2.2 n).2.2.2.1) else 0) n)), (6, .int (nI n)), (7, .null)]) rfl ?_
        refine V_aloadN dX1_cashMoved_26 7 rfl ?_
        refine V_ifnonnullN dX1_cashMoved_28 ?_
        refine V_goto 108 dX1_cashMoved_31 (by decide) ?_
        refine V_iinc (nI (n + 1)) dX1_cashMoved_108 6 rfl (nI_i1 n) rfl (L' := [(0, .ref (ab 0)), (1, .int so), (2, .int (bi (ci))), (3, .int f), (4, .int t), (5, .int (isum (fun n => if bCnt B n f t then isum (fun k => if decide (bKd B n k = 0) = ci ∧ bSort B n k = so then bMv B n k else 0) ((B.2.2.2 n).2.2.2.1) else 0) n)), (6, .int (nI (n + 1))), (7, .null)]) rfl ?_
        refine V_goto 6 dX1_cashMoved_111 (by decide) ?_
        refine V_dropL (L' := [(0, .ref (ab 0)), (1, .int so), (2, .int (bi (ci))), (3, .int f), (4, .int t), (5, .int (isum (fun n => if bCnt B n f t then isum (fun k => if decide (bKd B n k = 0) = ci ∧ bSort B n k = so then bMv B n k else 0) ((B.2.2.2 n).2.2.2.1) else 0) n)), (6, .int (nI (n + 1)))]) (L'' := [(7, .null)]) rfl ?_
        rw [show isum (fun n => if bCnt B n f t then isum (fun k => if decide (bKd B n k = 0) = ci ∧ bSort B n k = so then bMv B n k else 0) ((B.2.2.2 n).2.2.2.1) else 0) n = isum (fun n => if bCnt B n f t then isum (fun k => if decide (bKd B n k = 0) = ci ∧ bSort B n k = so then bMv B n k else 0) ((B.2.2.2 n).2.2.2.1) else 0) (n + 1) by rw [isum, if_neg hc]; rw [Int32.add_zero]]
        exact ih (n + 1) (by omega) (by omega)

set_option maxRecDepth 100000 in
set_option maxHeartbeats 4000000 in
theorem c_B_cashMoved (w : vWd) (ab : Nat → Nat) (aj : Nat → Nat → Nat) (B : BP) (so : Int32) (ci : Bool) (f : Int32) (t : Int32) (hB : okB B) : Ct w mX1_cashMoved 3 0 0 [.ref (ab 0), .int so, .int (bi (ci)), .int f, .int t] (cB w ab aj B) (qE (some (.int (isum (fun n => if bCnt B n f t then isum (fun k => if decide (bKd B n k = 0) = ci ∧ bSort B n k = so then bMv B n k else 0) ((B.2.2.2 n).2.2.2.1) else 0) B.2.1))) (cB w ab aj B)) := by
  refine Ct.of (L := [(0, .ref (ab 0)), (1, .int so), (2, .int (bi (ci))), (3, .int f), (4, .int t)]) (by decide) rfl rfl ?_
  refine V_iconst 0 dX1_cashMoved_0 (by decide) ?_
  refine V_istore dX1_cashMoved_1 rfl (L' := [(0, .ref (ab 0)), (1, .int so), (2, .int (bi (ci))), (3, .int f), (4, .int t), (5, .int 0)]) rfl ?_
  refine V_iconst 0 dX1_cashMoved_3 (by decide) ?_
  refine V_istore dX1_cashMoved_4 rfl (L' := [(0, .ref (ab 0)), (1, .int so), (2, .int (bi (ci))), (3, .int f), (4, .int t), (5, .int 0), (6, .int 0)]) rfl ?_
  exact lp_B_cashMoved w ab aj B so ci f t hB (B.2.1 + 1) 0 (by omega) (by omega)

set_option maxRecDepth 100000 in
set_option maxHeartbeats 4000000 in
theorem lpi_B_makersOf (w : vWd) (ab : Nat → Nat) (aj : Nat → Nat → Nat) (B : BP) (so : Int32) (f : Int32) (t : Int32) (hB : okB B) (n : Nat) (hn : n < B.2.1) (acc : Int32) (hnx : V w mX1_makersOf (vc w 3 0 0 (qE (some (.int (iorf (fun n => if bCnt B n f t then iorf (fun k => if bSort B n k = so then (1 : Int32) <<< (nI n &&& 31) else 0) ((B.2.2.2 n).2.2.2.1) else 0) B.2.1))) (cB w ab aj B))) 0 0 77 [(0, .ref (ab 0)), (1, .int so), (2, .int f), (3, .int t), (4, .int (acc ||| iorf (fun k => if bSort B n k = so then (1 : Int32) <<< (nI n &&& 31) else 0) ((B.2.2.2 n).2.2.2.1))), (5, .int (nI n)), (6, .ref (aj n 0)), (7, .int (nI ((B.2.2.2 n).2.2.2.1)))] [] (cB w ab aj B)) : ∀ (m : Nat) (k : Nat), ((B.2.2.2 n).2.2.2.1 + 1 ≤ k + m) → (k ≤ (B.2.2.2 n).2.2.2.1) → V w mX1_makersOf (vc w 3 0 0 (qE (some (.int (iorf (fun n => if bCnt B n f t then iorf (fun k => if bSort B n k = so then (1 : Int32) <<< (nI n &&& 31) else 0) ((B.2.2.2 n).2.2.2.1) else 0) B.2.1))) (cB w ab aj B))) 0 0 36 [(0, .ref (ab 0)), (1, .int so), (2, .int f), (3, .int t), (4, .int (acc ||| iorf (fun k => if bSort B n k = so then (1 : Int32) <<< (nI n &&& 31) else 0) k)), (5, .int (nI n)), (6, .ref (aj n 0)), (7, .int (nI k))] [] (cB w ab aj B) := by
  intro m
  induction m with
  | zero =>
    intro k h1 h2
    exact absurd h1 (by omega)
  | succ m ih =>
    intro k h1 h2
    obtain ⟨hB1, hB2, hB3⟩ := id hB
    have hJ := hB3 n (by omega)
    obtain ⟨hJ1, hJ2, hJ3⟩ := id hJ
    refine V_iload dX1_makersOf_36 7 rfl ?_
    refine V_aload dX1_makersOf_38 6 rfl ?_
    refine V_partR dX1_makersOf_40 lX1_104 (cB5 w ab aj B ++ cJx w aj B.2.2.2 n) (c_J_pieces w (aj n) (B.2.2.2 n)) (cB_focus (by omega)) rfl rfl 0 rfl rfl rfl rfl ?_
    refine V_icmp_ge_n k ((B.2.2.2 n).2.2.2.1) 77 dX1_makersOf_43 (by decide) (by omega) (by omega) (fun zc1 => ?_) (fun zc1 => ?_)
    · have hke : k = (B.2.2.2 n).2.2.2.1 := by omega
      subst hke
      exact hnx
    · refine V_iload dX1_makersOf_46 4 rfl ?_
      refine V_aload_n dX1_makersOf_48 0 rfl ?_
      refine V_aload dX1_makersOf_49 6 rfl ?_
      refine V_iload dX1_makersOf_51 7 rfl ?_
      refine V_selfR dX1_makersOf_53 lX1_107 (c_B_sortOf w ab aj B n k (by omega) (by omega) hB) rfl rfl 0 rfl rfl rfl rfl ?_
      refine V_iload_n dX1_makersOf_56 1 rfl ?_
      refine V_icmp_ne 67 dX1_makersOf_57 (by decide) (fun zc2 => ?_) (fun zc2 => ?_)
      · refine V_iconst 0 dX1_makersOf_67 (by decide) ?_
        refine V_ior dX1_makersOf_68 ?_
        refine V_istore dX1_makersOf_69 rfl (L' := [(0, .ref (ab 0)), (1, .int so), (2, .int f), (3, .int t), (4, .int ((acc ||| iorf (fun k => if bSort B n k = so then (1 : Int32) <<< (nI n &&& 31) else 0) k) ||| 0)), (5, .int (nI n)), (6, .ref (aj n 0)), (7, .int (nI k))]) rfl ?_
        refine V_iinc (nI (k + 1)) dX1_makersOf_71 7 rfl (nI_i1 k) rfl (L' := [(0, .ref (ab 0)), (1, .int so), (2, .int f), (3, .int t), (4, .int ((acc ||| iorf (fun k => if bSort B n k = so then (1 : Int32) <<< (nI n &&& 31) else 0) k) ||| 0)), (5, .int (nI n)), (6, .ref (aj n 0)), (7, .int (nI (k + 1)))]) rfl ?_
        refine V_goto 36 dX1_makersOf_74 (by decide) ?_
        rw [show (acc ||| iorf (fun k => if bSort B n k = so then (1 : Int32) <<< (nI n &&& 31) else 0) k) ||| 0 = acc ||| iorf (fun k => if bSort B n k = so then (1 : Int32) <<< (nI n &&& 31) else 0) (k + 1) by rw [← iorf_s] <;> grind [bSort, bKc, bKd, bMv]]
        exact ih (k + 1) (by omega) (by omega)
      · refine V_iconst 1 dX1_makersOf_60 (by decide) ?_
        refine V_iload dX1_makersOf_61 5 rfl ?_
        refine V_ishl dX1_makersOf_63 ?_
        refine V_goto 68 dX1_makersOf_64 (by decide) ?_
        refine V_ior dX1_makersOf_68 ?_
        refine V_istore dX1_makersOf_69 rfl (L' := [(0, .ref (ab 0)), (1, .int so), (2, .int f), (3, .int t), (4, .int ((acc ||| iorf (fun k => if bSort B n k = so then (1 : Int32) <<< (nI n &&& 31) else 0) k) ||| (1 <<< (nI n &&& 31)))), (5, .int (nI n)), (6, .ref (aj n 0)), (7, .int (nI k))]) rfl ?_
        refine V_iinc (nI (k + 1)) dX1_makersOf_71 7 rfl (nI_i1 k) rfl (L' := [(0, .ref (ab 0)), (1, .int so), (2, .int f), (3, .int t), (4, .int ((acc ||| iorf (fun k => if bSort B n k = so then (1 : Int32) <<< (nI n &&& 31) else 0) k) ||| (1 <<< (nI n &&& 31)))), (5, .int (nI n)), (6, .ref (aj n 0)), (7, .int (nI (k + 1)))]) rfl ?_
        refine V_goto 36 dX1_makersOf_74 (by decide) ?_
        rw [show (acc ||| iorf (fun k => if bSort B n k = so then (1 : Int32) <<< (nI n &&& 31) else 0) k) ||| (1 <<< (nI n &&& 31)) = acc ||| iorf (fun k => if bSort B n k = so then (1 : Int32) <<< (nI n &&& 31) else 0) (k + 1) by rw [← iorf_s] <;> grind [bSort, bKc, bKd, bMv]]
        exact ih (k + 1) (by omega) (by omega)

set_option maxRecDepth 100000 in
set_option maxHeartbeats 4000000 in
theorem lp_B_makersOf (w : vWd) (ab : Nat → Nat) (aj : Nat → Nat → Nat) (B : BP) (so : Int32) (f : Int32) (t : Int32) (hB : okB B) : ∀ (m : Nat) (n : Nat), (B.2.1 + 1 ≤ n + m) → (n ≤ B.2.1) → V w mX1_makersOf (vc w 3 0 0 (qE (some (.int (iorf (fun n => if bCnt B n f t then iorf (fun k => if bSort B n k = so then (1 : Int32) <<< (nI n &&& 31) else 0) ((B.2.2.2 n).2.2.2.1) else 0) B.2.1))) (cB w ab aj B))) 0 0 6 [(0, .ref (ab 0)), (1, .int so), (2, .int f), (3, .int t), (4, .int (iorf (fun n => if bCnt B n f t then iorf (fun k => if bSort B n k = so then (1 : Int32) <<< (nI n &&& 31) else 0) ((B.2.2.2 n).2.2.2.1) else 0) n)), (5, .int (nI n))] [] (cB w ab aj B) := by
  intro m
  induction m with
  | zero =>
    intro n h1 h2
    exact absurd h1 (by omega)
  | succ m ih =>
    intro n h1 h2
    obtain ⟨hB1, hB2, hB3⟩ := id hB
    refine V_iload dX1_makersOf_6 5 rfl ?_
    refine V_aload_n dX1_makersOf_8 0 rfl ?_
    refine V_get dX1_makersOf_9 fX1_31 0 rfl rfl ?_
    refine V_icmp_ge_n n B.2.1 83 dX1_makersOf_12 (by decide) (by omega) (by omega) (fun zc1 => ?_) (fun zc1 => ?_)
    · refine V_iload dX1_makersOf_83 4 rfl ?_
      exact V_iret dX1_makersOf_85 rfl (nb rfl) (nb rfl) ⟨by rw [show n = B.2.1 by omega], rfl⟩
    · refine V_aload_n dX1_makersOf_15 0 rfl ?_
      refine V_iload dX1_makersOf_16 5 rfl ?_
      refine V_iload_n dX1_makersOf_18 2 rfl ?_
      refine V_iload_n dX1_makersOf_19 3 rfl ?_
      refine V_selfR dX1_makersOf_20 lX1_72 (c_B_counting w ab aj B n f t (by omega) hB) rfl rfl 0 rfl rfl rfl rfl ?_
      by_cases hc : bCnt B n f t = true
      · refine V_castv (y := .ref (aj n 0)) (if_pos hc) ?_
        refine V_astore dX1_makersOf_23 rfl (L' := [(0, .ref (ab 0)), (1, .int so), (2, .int f), (3, .int t), (4, .int (iorf (fun n => if bCnt B n f t then iorf (fun k => if bSort B n k = so then (1 : Int32) <<< (nI n &&& 31) else 0) ((B.2.2.2 n).2.2.2.1) else 0) n)), (5, .int (nI n)), (6, .ref (aj n 0))]) rfl ?_
        refine V_aload dX1_makersOf_25 6 rfl ?_
        refine V_ifnonnull 33 dX1_makersOf_27 (by decide) ?_
        refine V_iconst 0 dX1_makersOf_33 (by decide) ?_
        refine V_istore dX1_makersOf_34 rfl (L' := [(0, .ref (ab 0)), (1, .int so), (2, .int f), (3, .int t), (4, .int (iorf (fun n => if bCnt B n f t then iorf (fun k => if bSort B n k = so then (1 : Int32) <<< (nI n &&& 31) else 0) ((B.2.2.2 n).2.2.2.1) else 0) n)), (5, .int (nI n)), (6, .ref (aj n 0)), (7, .int 0)]) rfl ?_
        have hcl : bCnt B n f t = true := hc
        refine V_L ?_ (lpi_B_makersOf w ab aj B so f t hB n (by omega) (iorf (fun n => if bCnt B n f t then iorf (fun k => if bSort B n k = so then (1 : Int32) <<< (nI n &&& 31) else 0) ((B.2.2.2 n).2.2.2.1) else 0) n) ?_ ((B.2.2.2 n).2.2.2.1 + 1) 0 (by omega) (by omega))
        · rw [← iorf_0]; rfl
        · refine V_iinc (nI (n + 1)) dX1_makersOf_77 5 rfl (nI_i1 n) rfl (L' := [(0, .ref (ab 0)), (1, .int so), (2, .int f), (3, .int t), (4, .int (iorf (fun n => if bCnt B n f t then iorf (fun k => if bSort B n k = so then (1 : Int32) <<< (nI n &&& 31) else 0) ((B.2.2.2 n).2.2.2.1) else 0) n ||| iorf (fun k => if bSort B n k = so then (1 : Int32) <<< (nI n &&& 31) else 0) ((B.2.2.2 n).2.2.2.1))), (5, .int (nI (n + 1))), (6, .ref (aj n 0)), (7, .int (nI ((B.2.2.2 n).2.2.2.1)))]) rfl ?_
          refine V_goto 6 dX1_makersOf_80 (by decide) ?_
          refine V_dropL (L' := [(0, .ref (ab 0)), (1, .int so), (2, .int f), (3, .int t), (4, .int (iorf (fun n => if bCnt B n f t then iorf (fun k => if bSort B n k = so then (1 : Int32) <<< (nI n &&& 31) else 0) ((B.2.2.2 n).2.2.2.1) else 0) n ||| iorf (fun k => if bSort B n k = so then (1 : Int32) <<< (nI n &&& 31) else 0) ((B.2.2.2 n).2.2.2.1))), (5, .int (nI (n + 1)))]) (L'' := [(6, .ref (aj n 0)), (7, .int (nI ((B.2.2.2 n).2.2.2.1)))]) rfl ?_
          rw [show iorf (fun n => if bCnt B n f t then iorf (fun k => if bSort B n k = so then (1 : Int32) <<< (nI n &&& 31) else 0) ((B.2.2.2 n).2.2.2.1) else 0) n ||| iorf (fun k => if bSort B n k = so then (1 : Int32) <<< (nI n &&& 31) else 0) ((B.2.2.2 n).2.2.2.1) = iorf (fun n => if bCnt B n f t then iorf (fun k => if bSort B n k = so then (1 : Int32) <<< (nI n &&& 31) else 0) ((B.2.2.2 n).2.2.2.1) else 0) (n + 1) by rw [iorf, if_pos hc]]
          exact ih (n + 1) (by omega) (by omega)
      · refine V_castv (y := .null) (if_neg hc) ?_
        refine V_astoreN dX1_makersOf_23 rfl (L' := [(0, .ref (ab 0)), (1, .int so), (2, .int f), (3, .int t), (4, .int (iorf (fun n => if bCnt B n f t then iorf (fun k => if bSort B n k = so then (1 : Int32) <<< (nI n &&& 31) else 0) ((B.2.2.2 n).2.2.2.1) else 0) n)), (5, .int (nI n)), (6, .null)]) rfl ?_
        refine V_aloadN dX1_makersOf_25 6 rfl ?_
        refine V_ifnonnullN dX1_makersOf_27 ?_
        refine V_goto 77 dX1_makersOf_30 (by decide) ?_
        refine V_iinc (nI (n + 1)) dX1_makersOf_77 5 rfl (nI_i1 n) rfl (L' := [(0, .ref (ab 0)), (1, .int so), (2, .int f), (3, .int t), (4, .int (iorf (fun n => if bCnt B n f t then iorf (fun k => if bSort B n k = so then (1 : Int32) <<< (nI n &&& 31) else 0) ((B.2.2.2 n).2.2.2.1) else 0) n)), (5, .int (nI (n + 1))), (6, .null)]) rfl ?_
        refine V_goto 6 dX1_makersOf_80 (by decide) ?_
        refine V_dropL (L' := [(0, .ref (ab 0)), (1, .int so), (2, .int f), (3, .int t), (4, .int (iorf (fun n => if bCnt B n f t then iorf (fun k => if bSort B n k = so then (1 : Int32) <<< (nI n &&& 31) else 0) ((B.2.2.2 n).2.2.2.1) else 0) n)), (5, .int (nI (n + 1)))]) (L'' := [(6, .null)]) rfl ?_
        rw [show iorf (fun n => if bCnt B n f t then iorf (fun k => if bSort B n k = so then (1 : Int32) <<< (nI n &&& 31) else 0) ((B.2.2.2 n).2.2.2.1) else 0) n = iorf (fun n => if bCnt B n f t then iorf (fun k => if bSort B n k = so then (1 : Int32) <<< (nI n &&& 31) else 0) ((B.2.2.2 n).2.2.2.1) else 0) (n + 1) by rw [iorf, if_neg hc]; rw [Int32.or_zero]]
        exact ih (n + 1) (by omega) (by omega)

set_option maxRecDepth 100000 in
set_option maxHeartbeats 4000000 in
theorem c_B_makersOf (w : vWd) (ab : Nat → Nat) (aj : Nat → Nat → Nat) (B : BP) (so : Int32) (f : Int32) (t : Int32) (hB : okB B) : Ct w mX1_makersOf 3 0 0 [.ref (ab 0), .int so, .int f, .int t] (cB w ab aj B) (qE (some (.int (iorf (fun n => if bCnt B n f t then iorf (fun k => if bSort B n k = so then (1 : Int32) <<< (nI n &&& 31) else 0) ((B.2.2.2 n).2.2.2.1) else 0) B.2.1))) (cB w ab aj B)) := by
  refine Ct.of (L := [(0, .ref (ab 0)), (1, .int so), (2, .int f), (3, .int t)]) (by decide) rfl rfl ?_
  refine V_iconst 0 dX1_makersOf_0 (by decide) ?_
  refine V_istore dX1_makersOf_1 rfl (L' := [(0, .ref (ab 0)), (1, .int so), (2, .int f), (3, .int t), (4, .int 0)]) rfl ?_
  refine V_iconst 0 dX1_makersOf_3 (by decide) ?_
  refine V_istore dX1_makersOf_4 rfl (L' := [(0, .ref (ab 0)), (1, .int so), (2, .int f), (3, .int t), (4, .int 0), (5, .int 0)]) rfl ?_
  exact lp_B_makersOf w ab aj B so f t hB (B.2.1 + 1) 0 (by omega) (by omega)

set_option maxRecDepth 100000 in
set_option maxHeartbeats 4000000 in
theorem lpi_B_dealt (w : vWd) (ab : Nat → Nat) (aj : Nat → Nat → Nat) (B : BP) (ki : Int32) (ot : Int32) (f : Int32) (t : Int32) (hB : okB B) (n : Nat) (hn : n < B.2.1) (acc : Int32) (hnx : V w mX1_dealt (vc w 2 0 0 (qE (some (.int (isum (fun n => if bCnt B n f t then isum (fun k => if imin (bKc B n k) (bKd B n k) = ki ∧ imax (bKc B n k) (bKd B n k) = ot then bMv B n k else 0) ((B.2.2.2 n).2.2.2.1) else 0) B.2.1))) (cB w ab aj B))) 0 0 129 [(0, .ref (ab 0)), (1, .int ki), (2, .int ot), (3, .int f), (4, .int t), (5, .int (acc + isum (fun k => if imin (bKc B n k) (bKd B n k) = ki ∧ imax (bKc B n k) (bKd B n k) = ot then bMv B n k else 0) ((B.2.2.2 n).2.2.2.1))), (6, .int (nI n)), (7, .ref (aj n 0)), (8, .int (nI ((B.2.2.2 n).2.2.2.1)))] [] (cB w ab aj B)) : ∀ (m : Nat) (k : Nat), ((B.2.2.2 n).2.2.2.1 + 1 ≤ k + m) → (k ≤ (B.2.2.2 n).2.2.2.1) → V w mX1_dealt (vc w 2 0 0 (qE (some (.int (isum (fun n => if bCnt B n f t then isum (fun k => if imin (bKc B n k) (bKd B n k) = ki ∧ imax (bKc B n k) (bKd B n k) = ot then bMv B n k else 0) ((B.2.2.2 n).2.2.2.1) else 0) B.2.1))) (cB w ab aj B))) 0 0 37 [(0, .ref (ab 0)), (1, .int ki), (2, .int ot), (3, .int f), (4, .int t), (5, .int (acc + isum (fun k => if imin (bKc B n k) (bKd B n k) = ki ∧ imax (bKc B n k) (bKd B n k) = ot then bMv B n k else 0) k)), (6, .int (nI n)), (7, .ref (aj n 0)), (8, .int (nI k))] [] (cB w ab aj B) := by
  intro m
  induction m with
  | zero =>
    intro k h1 h2
    exact absurd h1 (by omega)
  | succ m ih =>
    intro k h1 h2
    obtain ⟨hB1, hB2, hB3⟩ := id hB
    have hJ := hB3 n (by omega)
    obtain ⟨hJ1, hJ2, hJ3⟩ := id hJ
    refine V_iload dX1_dealt_37 8 rfl ?_
    refine V_aload dX1_dealt_39 7 rfl ?_
    refine V_partR dX1_dealt_41 lX1_104 (cB5 w ab aj B ++ cJx w aj B.2.2.2 n) (c_J_pieces w (aj n) (B.2.2.2 n)) (cB_focus (by omega)) rfl rfl 0 rfl rfl rfl rfl ?_
    refine V_icmp_ge_n k ((B.2.2.2 n).2.2.2.1) 129 dX1_dealt_44 (by decide) (by omega) (by omega) (fun zc1 => ?_) (fun zc1 => ?_)
    · have hke : k = (B.2.2.2 n).2.2.2.1 := by omega
      subst hke
      exact hnx
    · refine V_aload_n dX1_dealt_47 0 rfl ?_
      refine V_aload dX1_dealt_48 7 rfl ?_
      refine V_iload dX1_dealt_50 8 rfl ?_
      refine V_partR dX1_dealt_52 lX1_95 (cB5 w ab aj B ++ cJx w aj B.2.2.2 n) (c_J_creditedOf_n w (aj n) (B.2.2.2 n) hJ k (by omega)) (cB_focus (by omega)) rfl rfl 0 rfl rfl rfl rfl ?_
      refine V_selfR dX1_dealt_55 lX1_89 (c_B_kindOf w ab aj B ((B.2.2.2 n).2.2.2.2.2 3 k) hB) rfl rfl 0 rfl rfl rfl rfl ?_
      refine V_istore dX1_dealt_58 rfl (L' := [(0, .ref (ab 0)), (1, .int ki), (2, .int ot), (3, .int f), (4, .int t), (5, .int (acc + isum (fun k => if imin (bKc B n k) (bKd B n k) = ki ∧ imax (bKc B n k) (bKd B n k) = ot then bMv B n k else 0) k)), (6, .int (nI n)), (7, .ref (aj n 0)), (8, .int (nI k)), (9, .int (bKind B ((B.2.2.2 n).2.2.2.2.2 3 k)))]) rfl ?_
      refine V_aload_n dX1_dealt_60 0 rfl ?_
      refine V_aload dX1_dealt_61 7 rfl ?_
      refine V_iload dX1_dealt_63 8 rfl ?_
      refine V_partR dX1_dealt_65 lX1_98 (cB5 w ab aj B ++ cJx w aj B.2.2.2 n) (c_J_debitedOf_n w (aj n) (B.2.2.2 n) hJ k (by omega)) (cB_focus (by omega)) rfl rfl 0 rfl rfl rfl rfl ?_
      refine V_selfR dX1_dealt_68 lX1_89 (c_B_kindOf w ab aj B ((B.2.2.2 n).2.2.2.2.2 4 k) hB) rfl rfl 0 rfl rfl rfl rfl ?_
      refine V_istore dX1_dealt_71 rfl (L' := [(0, .ref (ab 0)), (1, .int ki), (2, .int ot), (3, .int f), (4, .int t), (5, .int (acc + isum (fun k => if imin (bKc B n k) (bKd B n k) = ki ∧ imax (bKc B n k) (bKd B n k) = ot then bMv B n k else 0) k)), (6, .int (nI n)), (7, .ref (aj n 0)), (8, .int (nI k)), (9, .int (bKind B ((B.2.2.2 n).2.2.2.2.2 3 k))), (10, .int (bKind B ((B.2.2.2 n).2.2.2.2.2 4 k)))]) rfl ?_
      refine V_iload dX1_dealt_73 9 rfl ?_
      refine V_iload dX1_dealt_75 10 rfl ?_
      refine V_mmin dX1_dealt_77 lX1_114 rfl ?_
      refine V_iload_n dX1_dealt_80 1 rfl ?_
      refine V_icmp_ne 99 dX1_dealt_81 (by decide) (fun zc2 => ?_) (fun zc2 => ?_)
      · refine V_iconst 0 dX1_dealt_99 (by decide) ?_
        refine V_istore dX1_dealt_100 rfl (L' := [(0, .ref (ab 0)), (1, .int ki), (2, .int ot), (3, .int f), (4, .int t), (5, .int (acc + isum (fun k => if imin (bKc B n k) (bKd B n k) = ki ∧ imax (bKc B n k) (bKd B n k) = ot then bMv B n k else 0) k)), (6, .int (nI n)), (7, .ref (aj n 0)), (8, .int (nI k)), (9, .int (bKind B ((B.2.2.2 n).2.2.2.2.2 3 k))), (10, .int (bKind B ((B.2.2.2 n).2.2.2.2.2 4 k))), (11, .int 0)]) rfl ?_
        refine V_iload dX1_dealt_102 5 rfl ?_
        refine V_iload dX1_dealt_104 11 rfl ?_
        refine V_if_eq_t 119 dX1_dealt_106 (by decide) (by decide) ?_
        refine V_iconst 0 dX1_dealt_119 (by decide) ?_
        refine V_iadd dX1_dealt_120 ?_
        refine V_istore dX1_dealt_121 rfl (L' := [(0, .ref (ab 0)), (1, .int ki), (2, .int ot), (3, .int f), (4, .int t), (5, .int ((acc + isum (fun k => if imin (bKc B n k) (bKd B n k) = ki ∧ imax (bKc B n k) (bKd B n k) = ot then bMv B n k else 0) k) + 0)), (6, .int (nI n)), (7, .ref (aj n 0)), (8, .int (nI k)), (9, .int (bKind B ((B.2.2.2 n).2.2.2.2.2 3 k))), (10, .int (bKind B ((B.2.2.2 n).2.2.2.2.2 4 k))), (11, .int 0)]) rfl ?_
        refine V_iinc (nI (k + 1)) dX1_dealt_123 8 rfl (nI_i1 k) rfl (L' := [(0, .ref (ab 0)), (1, .int ki), (2, .int ot), (3, .int f), (4, .int t), (5, .int ((acc + isum (fun k => if imin (bKc B n k) (bKd B n k) = ki ∧ imax (bKc B n k) (bKd B n k) = ot then bMv B n k else 0) k) + 0)), (6, .int (nI n)), (7, .ref (aj n 0)), (8, .int (nI (k + 1))), (9, .int (bKind B ((B.2.2.2 n).2.2.2.2.2 3 k))), (10, .int (bKind B ((B.2.2.2 n).2.2.2.2.2 4 k))), (11, .int 0)]) rfl ?_
        refine V_goto 37 dX1_dealt_126 (by decide) ?_
        refine V_dropL (L' := [(0, .ref (ab 0)), (1, .int ki), (2, .int ot), (3, .int f), (4, .int t), (5, .int ((acc + isum (fun k => if imin (bKc B n k) (bKd B n k) = ki ∧ imax (bKc B n k) (bKd B n k) = ot then bMv B n k else 0) k) + 0)), (6, .int (nI n)), (7, .ref (aj n 0)), (8, .int (nI (k + 1)))]) (L'' := [(9, .int (bKind B ((B.2.2.2 n).2.2.2.2.2 3 k))), (10, .int (bKind B ((B.2.2.2 n).2.2.2.2.2 4 k))), (11, .int 0)]) rfl ?_
        rw [show (acc + isum (fun k => if imin (bKc B n k) (bKd B n k) = ki ∧ imax (bKc B n k) (bKd B n k) = ot then bMv B n k else 0) k) + 0 = acc + isum (fun k => if imin (bKc B n k) (bKd B n k) = ki ∧ imax (bKc B n k) (bKd B n k) = ot then bMv B n k else 0) (k + 1) by rw [← isum_s] <;> grind [bSort, bKc, bKd, bMv]]
        exact ih (k + 1) (by omega) (by omega)
      · refine V_iload dX1_dealt_84 9 rfl ?_
        refine V_iload dX1_dealt_86 10 rfl ?_
        refine V_mmax dX1_dealt_88 lX1_51 rfl ?_
        refine V_iload_n dX1_dealt_91 2 rfl ?_
        refine V_icmp_ne 99 dX1_dealt_92 (by decide) (fun zc4 => ?_) (fun zc4 => ?_)
        · refine V_iconst 0 dX1_dealt_99 (by decide) ?_
          refine V_istore dX1_dealt_100 rfl (L' := [(0, .ref (ab 0)), (1, .int ki), (2, .int ot), (3, .int f), (4, .int t), (5, .int (acc + isum (fun k => if imin (bKc B n k) (bKd B n k) = ki ∧ imax (bKc B n k) (bKd B n k) = ot then bMv B n k else 0) k)), (6, .int (nI n)), (7, .ref (aj n 0)), (8, .int (nI k)), (9, .int (bKind B ((B.2.2.2 n).2.2.2.2.2 3 k))), (10, .int (bKind B ((B.2.2.2 n).2.2.2.2.2 4 k))), (11, .int 0)]) rfl ?_
          refine V_iload dX1_dealt_102 5 rfl ?_
          refine V_iload dX1_dealt_104 11 rfl ?_
          refine V_if_eq_t 119 dX1_dealt_106 (by decide) (by decide) ?_
          refine V_iconst 0 dX1_dealt_119 (by decide) ?_
          refine V_iadd dX1_dealt_120 ?_
          refine V_istore dX1_dealt_121 rfl (L' := [(0, .ref (ab 0)), (1, .int ki), (2, .int ot), (3, .int f), (4, .int t), (5, .int ((acc + isum (fun k => if imin (bKc B n k) (bKd B n k) = ki ∧ imax (bKc B n k) (bKd B n k) = ot then bMv B n k else 0) k) + 0)), (6, .int (nI n)), (7, .ref (aj n 0)), (8, .int (nI k)), (9, .int (bKind B ((B.2.2.2 n).2.2.2.2.2 3 k))), (10, .int (bKind B ((B.2.2.2 n).2.2.2.2.2 4 k))), (11, .int 0)]) rfl ?_
          refine V_iinc (nI (k + 1)) dX1_dealt_123 8 rfl (nI_i1 k) rfl (L' := [(0, .ref (ab 0)), (1, .int ki), (2, .int ot), (3, .int f), (4, .int t), (5, .int ((acc + isum (fun k => if imin (bKc B n k) (bKd B n k) = ki ∧ imax (bKc B n k) (bKd B n k) = ot then bMv B n k else 0) k) + 0)), (6, .int (nI n)), (7, .ref (aj n 0)), (8, .int (nI (k + 1))), (9, .int (bKind B ((B.2.2.2 n).2.2.2.2.2 3 k))), (10, .int (bKind B ((B.2.2.2 n).2.2.2.2.2 4 k))), (11, .int 0)]) rfl ?_
          refine V_goto 37 dX1_dealt_126 (by decide) ?_
          refine V_dropL (L' := [(0, .ref (ab 0)), (1, .int ki), (2, .int ot), (3, .int f), (4, .int t), (5, .int ((acc + isum (fun k => if imin (bKc B n k) (bKd B n k) = ki ∧ imax (bKc B n k) (bKd B n k) = ot then bMv B n k else 0) k) + 0)), (6, .int (nI n)), (7, .ref (aj n 0)), (8, .int (nI (k + 1)))]) (L'' := [(9, .int (bKind B ((B.2.2.2 n).2.2.2.2.2 3 k))), (10, .int (bKind B ((B.2.2.2 n).2.2.2.2.2 4 k))), (11, .int 0)]) rfl ?_
          rw [show (acc + isum (fun k => if imin (bKc B n k) (bKd B n k) = ki ∧ imax (bKc B n k) (bKd B n k) = ot then bMv B n k else 0) k) + 0 = acc + isum (fun k => if imin (bKc B n k) (bKd B n k) = ki ∧ imax (bKc B n k) (bKd B n k) = ot then bMv B n k else 0) (k + 1) by rw [← isum_s] <;> grind [bSort, bKc, bKd, bMv]]
          exact ih (k + 1) (by omega) (by omega)
        · refine V_iconst 1 dX1_dealt_95 (by decide) ?_
          refine V_goto 100 dX1_dealt_96 (by decide) ?_
          refine V_istore dX1_dealt_100 rfl (L' := [(0, .ref (ab 0)), (1, .int ki), (2, .int ot), (3, .int f), (4, .int t), (5, .int (acc + isum (fun k => if imin (bKc B n k) (bKd B n k) = ki ∧ imax (bKc B n k) (bKd B n k) = ot then bMv B n k else 0) k)), (6, .int (nI n)), (7, .ref (aj n 0)), (8, .int (nI k)), (9, .int (bKind B ((B.2.2.2 n).2.2.2.2.2 3 k))), (10, .int (bKind B ((B.2.2.2 n).2.2.2.2.2 4 k))), (11, .int 1)]) rfl ?_
          refine V_iload dX1_dealt_102 5 rfl ?_
          refine V_iload dX1_dealt_104 11 rfl ?_
          refine V_if_eq_f 119 dX1_dealt_106 (by decide) (by decide) ?_
          refine V_aload dX1_dealt_109 7 rfl ?_
          refine V_iload dX1_dealt_111 8 rfl ?_
          refine V_partR dX1_dealt_113 lX1_111 (cB5 w ab aj B ++ cJx w aj B.2.2.2 n) (c_J_movedOf_n w (aj n) (B.2.2.2 n) hJ k (by omega)) (cB_focus (by omega)) rfl rfl 0 rfl rfl rfl rfl ?_
          refine V_goto 120 dX1_dealt_116 (by decide) ?_
          refine V_iadd dX1_dealt_120 ?_
          refine V_istore dX1_dealt_121 rfl (L' := [(0, .ref (ab 0)), (1, .int ki), (2, .int ot), (3, .int f), (4, .int t), (5, .int ((acc + isum (fun k => if imin (bKc B n k) (bKd B n k) = ki ∧ imax (bKc B n k) (bKd B n k) = ot then bMv B n k else 0) k) + ((B.2.2.2 n).2.2.2.2.2 5 k))), (6, .int (nI n)), (7, .ref (aj n 0)), (8, .int (nI k)), (9, .int (bKind B ((B.2.2.2 n).2.2.2.2.2 3 k))), (10, .int (bKind B ((B.2.2.2 n).2.2.2.2.2 4 k))), (11, .int 1)]) rfl ?_
          refine V_iinc (nI (k + 1)) dX1_dealt_123 8 rfl (nI_i1 k) rfl (L' := [(0, .ref (ab 0)), (1, .int ki), (2, .int ot), (3, .int f), (4, .int t), (5, .int ((acc + isum (fun k => if imin (bKc B n k) (bKd B n k) = ki ∧ imax (bKc B n k) (bKd B n k) = ot then bMv B n k else 0) k) + ((B.2.2.2 n).2.2.2.2.2 5 k))), (6, .int (nI n)), (7, .ref (aj n 0)), (8, .int (nI (k + 1))), (9, .int (bKind B ((B.2.2.2 n).2.2.2.2.2 3 k))), (10, .int (bKind B ((B.2.2.2 n).2.2.2.2.2 4 k))), (11, .int 1)]) rfl ?_
          refine V_goto 37 dX1_dealt_126 (by decide) ?_
          refine V_dropL (L' := [(0, .ref (ab 0)), (1, .int ki), (2, .int ot), (3, .int f), (4, .int t), (5, .int ((acc + isum (fun k => if imin (bKc B n k) (bKd B n k) = ki ∧ imax (bKc B n k) (bKd B n k) = ot then bMv B n k else 0) k) + ((B.2.2.2 n).2.2.2.2.2 5 k))), (6, .int (nI n)), (7, .ref (aj n 0)), (8, .int (nI (k + 1)))]) (L'' := [(9, .int (bKind B ((B.2.2.2 n).2.2.2.2.2 3 k))), (10, .int (bKind B ((B.2.2.2 n).2.2.2.2.2 4 k))), (11, .int 1)]) rfl ?_
          rw [show (acc + isum (fun k => if imin (bKc B n k) (bKd B n k) = ki ∧ imax (bKc B n k) (bKd B n k) = ot then bMv B n k else 0) k) + ((B.2.2.2 n).2.2.2.2.2 5 k) = acc + isum (fun k => if imin (bKc B n k) (bKd B n k) = ki ∧ imax (bKc B n k) (bKd B n k) = ot then bMv B n k else 0) (k + 1) by rw [← isum_s] <;> grind [bSort, bKc, bKd, bMv]]
          exact ih (k + 1) (by omega) (by omega)

set_option maxRecDepth 100000 in
set_option maxHeartbeats 4000000 in
theorem lp_B_dealt (w : vWd) (ab : Nat → Nat) (aj : Nat → Nat → Nat) (B : BP) (ki : Int32) (ot : Int32) (f : Int32) (t : Int32) (hB : okB B) : ∀ (m : Nat) (n : Nat), (B.2.1 + 1 ≤ n + m) → (n ≤ B.2.1) → V w mX1_dealt (vc w 2 0 0 (qE (some (.int (isum (fun n => if bCnt B n f t then isum (fun k => if imin (bKc B n k) (bKd B n k) = ki ∧ imax (bKc B n k) (bKd B n k) = ot then bMv B n k else 0) ((B.2.2.2 n).2.2.2.1) else 0) B.2.1))) (cB w ab aj B))) 0 0 6 [(0, .ref (ab 0)), (1, .int ki), (2, .int ot), (3, .int f), (4, .int t), (5, .int (isum (fun n => if bCnt B n f t then isum (fun k => if imin (bKc B n k) (bKd B n k) = ki ∧ imax (bKc B n k) (bKd B n k) = ot then bMv B n k else 0) ((B.2.2.2 n).2.2.2.1) else 0) n)), (6, .int (nI n))] [] (cB w ab aj B) := by
  intro m
  induction m with
  | zero =>
    intro n h1 h2
    exact absurd h1 (by omega)
  | succ m ih =>
    intro n h1 h2
    obtain ⟨hB1, hB2, hB3⟩ := id hB
    refine V_iload dX1_dealt_6 6 rfl ?_
    refine V_aload_n dX1_dealt_8 0 rfl ?_
    refine V_get dX1_dealt_9 fX1_31 0 rfl rfl ?_
    refine V_icmp_ge_n n B.2.1 135 dX1_dealt_12 (by decide) (by omega) (by omega) (fun zc1 => ?_) (fun zc1 => ?_)
    · refine V_iload dX1_dealt_135 5 rfl ?_
      exact V_iret dX1_dealt_137 rfl (nb rfl) (nb rfl) ⟨by rw [show n = B.2.1 by omega], rfl⟩
    · refine V_aload_n dX1_dealt_15 0 rfl ?_
      refine V_iload dX1_dealt_16 6 rfl ?_
      refine V_iload_n dX1_dealt_18 3 rfl ?_
      refine V_iload dX1_dealt_19 4 rfl ?_
      refine V_selfR dX1_dealt_21 lX1_72 (c_B_counting w ab aj B n f t (by omega) hB) rfl rfl 0 rfl rfl rfl rfl ?_
      by_cases hc : bCnt B n f t = true
      · refine V_castv (y := .ref (aj n 0)) (if_pos hc) ?_
        refine V_astore dX1_dealt_24 rfl (L' := [(0, .ref (ab 0)), (1, .int ki), (2, .int ot), (3, .int f), (4, .int t), (5, .int (isum (fun n => if bCnt B n f t then isum (fun k => if imin (bKc B n k) (bKd B n k) = ki ∧ imax (bKc B n k) (bKd B n k) = ot then bMv B n k else 0) ((B.2.2.2 n).2.2.2.1) else 0) n)), (6, .int (nI n)), (7, .ref (aj n 0))]) rfl ?_
        refine V_aload dX1_dealt_26 7 rfl ?_
        refine V_ifnonnull 34 dX1_dealt_28 (by decide) ?_
        refine V_iconst 0 dX1_dealt_34 (by decide) ?_
        refine V_istore dX1_dealt_35 rfl (L' := [(0, .ref (ab 0)), (1, .int ki), (2, .int ot), (3, .int f), (4, .int t), (5, .int (isum (fun n => if bCnt B n f t then isum (fun k => if imin (bKc B n k) (bKd B n k) = ki ∧ imax (bKc B n k) (bKd B n k) = ot then bMv B n k else 0) ((B.2.2.2 n).2.2.2.1) else 0) n)), (6, .int (nI n)), (7, .ref (aj n 0)), (8, .int 0)]) rfl ?_
        have hcl : bCnt B n f t = true := hc
        refine V_L ?_ (lpi_B_dealt w ab aj B ki ot f t hB n (by omega) (isum (fun n => if bCnt B n f t then isum (fun k => if imin (bKc B n k) (bKd B n k) = ki ∧ imax (bKc B n k) (bKd B n k) = ot then bMv B n k else 0) ((B.2.2.2 n).2.2.2.1) else 0) n) ?_ ((B.2.2.2 n).2.2.2.1 + 1) 0 (by omega) (by omega))
        · rw [← isum_0]; rfl
        · refine V_iinc (nI (n + 1)) dX1_dealt_129 6 rfl (nI_i1 n) rfl (L' := [(0, .ref (ab 0)), (1, .int ki), (2, .int ot), (3, .int f), (4, .int t), (5, .int (isum (fun n => if bCnt B n f t then isum (fun k => if imin (bKc B n k) (bKd B n k) = ki ∧ imax (bKc B n k) (bKd B n k) = ot then bMv B n k else 0) ((B.2.2.2 n).2.2.2.1) else 0) n + isum (fun k => if imin (bKc B n k) (bKd B n k) = ki ∧ imax (bKc B n k) (bKd B n k) = ot then bMv B n k else 0) ((B.2.2.2 n).2.2.2.1))), (6, .int (nI (n + 1))), (7, .ref (aj n 0)), (8, .int (nI ((B.2.2.2 n).2.2.2.1)))]) rfl ?_
          refine V_goto 6 dX1_dealt_132 (by decide) ?_
          refine V_dropL (L' := [(0, .ref (ab 0)), (1, .int ki), (2, .int ot), (3, .int f), (4, .int t), (5, .int (isum (fun n => if bCnt B n f t then isum (fun k => if imin (bKc B n k) (bKd B n k) = ki ∧ imax (bKc B n k) (bKd B n k) = ot then bMv B n k else 0) ((B.2.2.2 n).2.2.2.1) else 0) n + isum (fun k => if imin (bKc B n k) (bKd B n k) = ki ∧ imax (bKc B n k) (bKd B n k) = ot then bMv B n k else 0) ((B.2.2.2 n).2.2.2.1))), (6, .int (nI (n + 1)))]) (L'' := [(7, .ref (aj n 0)), (8, .int (nI ((B.2.2.2 n).2.2.2.1)))]) rfl ?_
          rw [show isum (fun n => if bCnt B n f t then isum (fun k => if imin (bKc B n k) (bKd B n k) = ki ∧ imax (bKc B n k) (bKd B n k) = ot then bMv B n k else 0) ((B.2.2.2 n).2.2.2.1) else 0) n + isum (fun k => if imin (bKc B n k) (bKd B n k) = ki ∧ imax (bKc B n k) (bKd B n k) = ot then bMv B n k else 0) ((B.2.2.2 n).2.2.2.1) = isum (fun n => if bCnt B n f t then isum (fun k => if imin (bKc B n k) (bKd B n k) = ki ∧ imax (bKc B n k) (bKd B n k) = ot then bMv B n k else 0) ((B.2.2.2 n).2.2.2.1) else 0) (n + 1) by rw [isum, if_pos hc]]
          exact ih (n + 1) (by omega) (by omega)
      · refine V_castv (y := .null) (if_neg hc) ?_
        refine V_astoreN dX1_dealt_24 rfl (L' := [(0, .ref (ab 0)), (1, .int ki), (2, .int ot), (3, .int f), (4, .int t), (5, .int (isum (fun n => if bCnt B n f t then isum (fun k => if imin (bKc B n k) (bKd B n k) = ki ∧ imax (bKc B n k) (bKd B n k) = ot then bMv B n k else 0) ((B.2.2.2 n).2.2.2.1) else 0) n)), (6, .int (nI n)), (7, .null)]) rfl ?_
        refine V_aloadN dX1_dealt_26 7 rfl ?_
        refine V_ifnonnullN dX1_dealt_28 ?_
        refine V_goto 129 dX1_dealt_31 (by decide) ?_
        refine V_iinc (nI (n + 1)) dX1_dealt_129 6 rfl (nI_i1 n) rfl (L' := [(0, .ref (ab 0)), (1, .int ki), (2, .int ot), (3, .int f), (4, .int t), (5, .int (isum (fun n => if bCnt B n f t then isum (fun k => if imin (bKc B n k) (bKd B n k) = ki ∧ imax (bKc B n k) (bKd B n k) = ot then bMv B n k else 0) ((B.2.2.2 n).2.2.2.1) else 0) n)), (6, .int (nI (n + 1))), (7, .null)]) rfl ?_
        refine V_goto 6 dX1_dealt_132 (by decide) ?_
        refine V_dropL (L' := [(0, .ref (ab 0)), (1, .int ki), (2, .int ot), (3, .int f), (4, .int t), (5, .int (isum (fun n => if bCnt B n f t then isum (fun k => if imin (bKc B n k) (bKd B n k) = ki ∧ imax (bKc B n k) (bKd B n k) = ot then bMv B n k else 0) ((B.2.2.2 n).2.2.2.1) else 0) n)), (6, .int (nI (n + 1)))]) (L'' := [(7, .null)]) rfl ?_
        rw [show isum (fun n => if bCnt B n f t then isum (fun k => if imin (bKc B n k) (bKd B n k) = ki ∧ imax (bKc B n k) (bKd B n k) = ot then bMv B n k else 0) ((B.2.2.2 n).2.2.2.1) else 0) n = isum (fun n => if bCnt B n f t then isum (fun k => if imin (bKc B n k) (bKd B n k) = ki ∧ imax (bKc B n k) (bKd B n k) = ot then bMv B n k else 0) ((B.2.2.2 n).2.2.2.1) else 0) (n + 1) by rw [isum, if_neg hc]; rw [Int32.add_zero]]
        exact ih (n + 1) (by omega) (by omega)

set_option maxRecDepth 100000 in
set_option maxHeartbeats 4000000 in
theorem c_B_dealt (w : vWd) (ab : Nat → Nat) (aj : Nat → Nat → Nat) (B : BP) (ki : Int32) (ot : Int32) (f : Int32) (t : Int32) (hB : okB B) : Ct w mX1_dealt 2 0 0 [.ref (ab 0), .int ki, .int ot, .int f, .int t] (cB w ab aj B) (qE (some (.int (isum (fun n => if bCnt B n f t then isum (fun k => if imin (bKc B n k) (bKd B n k) = ki ∧ imax (bKc B n k) (bKd B n k) = ot then bMv B n k else 0) ((B.2.2.2 n).2.2.2.1) else 0) B.2.1))) (cB w ab aj B)) := by
  refine Ct.of (L := [(0, .ref (ab 0)), (1, .int ki), (2, .int ot), (3, .int f), (4, .int t)]) (by decide) rfl rfl ?_
  refine V_iconst 0 dX1_dealt_0 (by decide) ?_
  refine V_istore dX1_dealt_1 rfl (L' := [(0, .ref (ab 0)), (1, .int ki), (2, .int ot), (3, .int f), (4, .int t), (5, .int 0)]) rfl ?_
  refine V_iconst 0 dX1_dealt_3 (by decide) ?_
  refine V_istore dX1_dealt_4 rfl (L' := [(0, .ref (ab 0)), (1, .int ki), (2, .int ot), (3, .int f), (4, .int t), (5, .int 0), (6, .int 0)]) rfl ?_
  exact lp_B_dealt w ab aj B ki ot f t hB (B.2.1 + 1) 0 (by omega) (by omega)

set_option maxRecDepth 100000 in
set_option maxHeartbeats 4000000 in
theorem lpi_B_setApart (w : vWd) (ab : Nat → Nat) (aj : Nat → Nat → Nat) (B : BP) (f : Int32) (t : Int32) (hB : okB B) (n : Nat) (hn : n < B.2.1) (acc : Int32) (hnx : V w mX1_setApart (vc w 4 0 0 (qE (some (.int (isum (fun n => if bCnt B n f t then isum (fun k => apC (bKc B n k) (bKd B n k) (bMv B n k)) ((B.2.2.2 n).2.2.2.1) else 0) B.2.1))) (cB w ab aj B))) 0 0 62 [(0, .ref (ab 0)), (1, .int f), (2, .int t), (3, .int (acc + isum (fun k => apC (bKc B n k) (bKd B n k) (bMv B n k)) ((B.2.2.2 n).2.2.2.1))), (4, .int (nI n)), (5, .ref (aj n 0)), (6, .int (nI ((B.2.2.2 n).2.2.2.1)))] [] (cB w ab aj B)) : ∀ (m : Nat) (k : Nat), ((B.2.2.2 n).2.2.2.1 + 1 ≤ k + m) → (k ≤ (B.2.2.2 n).2.2.2.1) → V w mX1_setApart (vc w 4 0 0 (qE (some (.int (isum (fun n => if bCnt B n f t then isum (fun k => apC (bKc B n k) (bKd B n k) (bMv B n k)) ((B.2.2.2 n).2.2.2.1) else 0) B.2.1))) (cB w ab aj B))) 0 0 35 [(0, .ref (ab 0)), (1, .int f), (2, .int t), (3, .int (acc + isum (fun k => apC (bKc B n k) (bKd B n k) (bMv B n k)) k)), (4, .int (nI n)), (5, .ref (aj n 0)), (6, .int (nI k))] [] (cB w ab aj B) := by
  intro m
  induction m with
  | zero =>
    intro k h1 h2
    exact absurd h1 (by omega)
  | succ m ih =>
    intro k h1 h2
    obtain ⟨hB1, hB2, hB3⟩ := id hB
    have hJ := hB3 n (by omega)
    obtain ⟨hJ1, hJ2, hJ3⟩ := id hJ
    refine V_iload dX1_setApart_35 6 rfl ?_
    refine V_aload dX1_setApart_37 5 rfl ?_
    refine V_partR dX1_setApart_39 lX1_104 (cB5 w ab aj B ++ cJx w aj B.2.2.2 n) (c_J_pieces w (aj n) (B.2.2.2 n)) (cB_focus (by omega)) rfl rfl 0 rfl rfl rfl rfl ?_
    refine V_icmp_ge_n k ((B.2.2.2 n).2.2.2.1) 62 dX1_setApart_42 (by decide) (by omega) (by omega) (fun zc1 => ?_) (fun zc1 => ?_)
    · have hke : k = (B.2.2.2 n).2.2.2.1 := by omega
      subst hke
      exact hnx
    · refine V_iload_n dX1_setApart_45 3 rfl ?_
      refine V_aload_n dX1_setApart_46 0 rfl ?_
      refine V_aload dX1_setApart_47 5 rfl ?_
      refine V_iload dX1_setApart_49 6 rfl ?_
      refine V_selfR dX1_setApart_51 lX1_117 (c_B_apartBy w ab aj B n k (by omega) (by omega) hB) rfl rfl 0 rfl rfl rfl rfl ?_
      refine V_iadd dX1_setApart_54 ?_
      refine V_istore_n dX1_setApart_55 rfl (L' := [(0, .ref (ab 0)), (1, .int f), (2, .int t), (3, .int ((acc + isum (fun k => apC (bKc B n k) (bKd B n k) (bMv B n k)) k) + (apC (bKc B n k) (bKd B n k) (bMv B n k)))), (4, .int (nI n)), (5, .ref (aj n 0)), (6, .int (nI k))]) rfl ?_
      refine V_iinc (nI (k + 1)) dX1_setApart_56 6 rfl (nI_i1 k) rfl (L' := [(0, .ref (ab 0)), (1, .int f), (2, .int t), (3, .int ((acc + isum (fun k => apC (bKc B n k) (bKd B n k) (bMv B n k)) k) + (apC (bKc B n k) (bKd B n k) (bMv B n k)))), (4, .int (nI n)), (5, .ref (aj n 0)), (6, .int (nI (k + 1)))]) rfl ?_
      refine V_goto 35 dX1_setApart_59 (by decide) ?_
      rw [show (acc + isum (fun k => apC (bKc B n k) (bKd B n k) (bMv B n k)) k) + (apC (bKc B n k) (bKd B n k) (bMv B n k)) = acc + isum (fun k => apC (bKc B n k) (bKd B n k) (bMv B n k)) (k + 1) by rw [← isum_s] <;> grind [bSort, bKc, bKd, bMv]]
      exact ih (k + 1) (by omega) (by omega)

set_option maxRecDepth 100000 in
set_option maxHeartbeats 4000000 in
theorem lp_B_setApart (w : vWd) (ab : Nat → Nat) (aj : Nat → Nat → Nat) (B : BP) (f : Int32) (t : Int32) (hB : okB B) : ∀ (m : Nat) (n : Nat), (B.2.1 + 1 ≤ n + m) → (n ≤ B.2.1) → V w mX1_setApart (vc w 4 0 0 (qE (some (.int (isum (fun n => if bCnt B n f t then isum (fun k => apC (bKc B n k) (bKd B n k) (bMv B n k)) ((B.2.2.2 n).2.2.2.1) else 0) B.2.1))) (cB w ab aj B))) 0 0 5 [(0, .ref (ab 0)), (1, .int f), (2, .int t), (3, .int (isum (fun n => if bCnt B n f t then isum (fun k => apC (bKc B n k) (bKd B n k) (bMv B n k)) ((B.2.2.2 n).2.2.2.1) else 0) n)), (4, .int (nI n))] [] (cB w ab aj B) := by
  intro m
  induction m with
  | zero =>
    intro n h1 h2
    exact absurd h1 (by omega)
  | succ m ih =>
    intro n h1 h2
    obtain ⟨hB1, hB2, hB3⟩ := id hB
    refine V_iload dX1_setApart_5 4 rfl ?_
    refine V_aload_n dX1_setApart_7 0 rfl ?_
    refine V_get dX1_setApart_8 fX1_31 0 rfl rfl ?_
    refine V_icmp_ge_n n B.2.1 68 dX1_setApart_11 (by decide) (by omega) (by omega) (fun zc1 => ?_) (fun zc1 => ?_)
    · refine V_iload_n dX1_setApart_68 3 rfl ?_
      exact V_iret dX1_setApart_69 rfl (nb rfl) (nb rfl) ⟨by rw [show n = B.2.1 by omega], rfl⟩
    · refine V_aload_n dX1_setApart_14 0 rfl ?_
      refine V_iload dX1_setApart_15 4 rfl ?_
      refine V_iload_n dX1_setApart_17 1 rfl ?_
      refine V_iload_n dX1_setApart_18 2 rfl ?_
      refine V_selfR dX1_setApart_19 lX1_72 (c_B_counting w ab aj B n f t (by omega) hB) rfl rfl 0 rfl rfl rfl rfl ?_
      by_cases hc : bCnt B n f t = true
      · refine V_castv (y := .ref (aj n 0)) (if_pos hc) ?_
        refine V_astore dX1_setApart_22 rfl (L' := [(0, .ref (ab 0)), (1, .int f), (2, .int t), (3, .int (isum (fun n => if bCnt B n f t then isum (fun k => apC (bKc B n k) (bKd B n k) (bMv B n k)) ((B.2.2.2 n).2.2.2.1) else 0) n)), (4, .int (nI n)), (5, .ref (aj n 0))]) rfl ?_
        refine V_aload dX1_setApart_24 5 rfl ?_
        refine V_ifnonnull 32 dX1_setApart_26 (by decide) ?_
        refine V_iconst 0 dX1_setApart_32 (by decide) ?_
        refine V_istore dX1_setApart_33 rfl (L' := [(0, .ref (ab 0)), (1, .int f), (2, .int t), (3, .int (isum (fun n => if bCnt B n f t then isum (fun k => apC (bKc B n k) (bKd B n k) (bMv B n k)) ((B.2.2.2 n).2.2.2.1) else 0) n)), (4, .int (nI n)), (5, .ref (aj n 0)), (6, .int 0)]) rfl ?_
        have hcl : bCnt B n f t = true := hc
        refine V_L ?_ (lpi_B_setApart w ab aj B f t hB n (by omega) (isum (fun n => if bCnt B n f t then isum (fun k => apC (bKc B n k) (bKd B n k) (bMv B n k)) ((B.2.2.2 n).2.2.2.1) else 0) n) ?_ ((B.2.2.2 n).2.2.2.1 + 1) 0 (by omega) (by omega))
        · rw [← isum_0]; rfl
        · refine V_iinc (nI (n + 1)) dX1_setApart_62 4 rfl (nI_i1 n) rfl (L' := [(0, .ref (ab 0)), (1, .int f), (2, .int t), (3, .int (isum (fun n => if bCnt B n f t then isum (fun k => apC (bKc B n k) (bKd B n k) (bMv B n k)) ((B.2.2.2 n).2.2.2.1) else 0) n + isum (fun k => apC (bKc B n k) (bKd B n k) (bMv B n k)) ((B.2.2.2 n).2.2.2.1))), (4, .int (nI (n + 1))), (5, .ref (aj n 0)), (6, .int (nI ((B.2.2.2 n).2.2.2.1)))]) rfl ?_
          refine V_goto 5 dX1_setApart_65 (by decide) ?_
          refine V_dropL (L' := [(0, .ref (ab 0)), (1, .int f), (2, .int t), (3, .int (isum (fun n => if bCnt B n f t then isum (fun k => apC (bKc B n k) (bKd B n k) (bMv B n k)) ((B.2.2.2 n).2.2.2.1) else 0) n + isum (fun k => apC (bKc B n k) (bKd B n k) (bMv B n k)) ((B.2.2.2 n).2.2.2.1))), (4, .int (nI (n + 1)))]) (L'' := [(5, .ref (aj n 0)), (6, .int (nI ((B.2.2.2 n).2.2.2.1)))]) rfl ?_
          rw [show isum (fun n => if bCnt B n f t then isum (fun k => apC (bKc B n k) (bKd B n k) (bMv B n k)) ((B.2.2.2 n).2.2.2.1) else 0) n + isum (fun k => apC (bKc B n k) (bKd B n k) (bMv B n k)) ((B.2.2.2 n).2.2.2.1) = isum (fun n => if bCnt B n f t then isum (fun k => apC (bKc B n k) (bKd B n k) (bMv B n k)) ((B.2.2.2 n).2.2.2.1) else 0) (n + 1) by rw [isum, if_pos hc]]
          exact ih (n + 1) (by omega) (by omega)
      · refine V_castv (y := .null) (if_neg hc) ?_
        refine V_astoreN dX1_setApart_22 rfl (L' := [(0, .ref (ab 0)), (1, .int f), (2, .int t), (3, .int (isum (fun n => if bCnt B n f t then isum (fun k => apC (bKc B n k) (bKd B n k) (bMv B n k)) ((B.2.2.2 n).2.2.2.1) else 0) n)), (4, .int (nI n)), (5, .null)]) rfl ?_
        refine V_aloadN dX1_setApart_24 5 rfl ?_
        refine V_ifnonnullN dX1_setApart_26 ?_
        refine V_goto 62 dX1_setApart_29 (by decide) ?_
        refine V_iinc (nI (n + 1)) dX1_setApart_62 4 rfl (nI_i1 n) rfl (L' := [(0, .ref (ab 0)), (1, .int f), (2, .int t), (3, .int (isum (fun n => if bCnt B n f t then isum (fun k => apC (bKc B n k) (bKd B n k) (bMv B n k)) ((B.2.2.2 n).2.2.2.1) else 0) n)), (4, .int (nI (n + 1))), (5, .null)]) rfl ?_
        refine V_goto 5 dX1_setApart_65 (by decide) ?_
        refine V_dropL (L' := [(0, .ref (ab 0)), (1, .int f), (2, .int t), (3, .int (isum (fun n => if bCnt B n f t then isum (fun k => apC (bKc B n k) (bKd B n k) (bMv B n k)) ((B.2.2.2 n).2.2.2.1) else 0) n)), (4, .int (nI (n + 1)))]) (L'' := [(5, .null)]) rfl ?_
        rw [show isum (fun n => if bCnt B n f t then isum (fun k => apC (bKc B n k) (bKd B n k) (bMv B n k)) ((B.2.2.2 n).2.2.2.1) else 0) n = isum (fun n => if bCnt B n f t then isum (fun k => apC (bKc B n k) (bKd B n k) (bMv B n k)) ((B.2.2.2 n).2.2.2.1) else 0) (n + 1) by rw [isum, if_neg hc]; rw [Int32.add_zero]]
        exact ih (n + 1) (by omega) (by omega)

set_option maxRecDepth 100000 in
set_option maxHeartbeats 4000000 in
theorem c_B_setApart (w : vWd) (ab : Nat → Nat) (aj : Nat → Nat → Nat) (B : BP) (f : Int32) (t : Int32) (hB : okB B) : Ct w mX1_setApart 4 0 0 [.ref (ab 0), .int f, .int t] (cB w ab aj B) (qE (some (.int (isum (fun n => if bCnt B n f t then isum (fun k => apC (bKc B n k) (bKd B n k) (bMv B n k)) ((B.2.2.2 n).2.2.2.1) else 0) B.2.1))) (cB w ab aj B)) := by
  refine Ct.of (L := [(0, .ref (ab 0)), (1, .int f), (2, .int t)]) (by decide) rfl rfl ?_
  refine V_iconst 0 dX1_setApart_0 (by decide) ?_
  refine V_istore_n dX1_setApart_1 rfl (L' := [(0, .ref (ab 0)), (1, .int f), (2, .int t), (3, .int 0)]) rfl ?_
  refine V_iconst 0 dX1_setApart_2 (by decide) ?_
  refine V_istore dX1_setApart_3 rfl (L' := [(0, .ref (ab 0)), (1, .int f), (2, .int t), (3, .int 0), (4, .int 0)]) rfl ?_
  exact lp_B_setApart w ab aj B f t hB (B.2.1 + 1) 0 (by omega) (by omega)
