/-! 18: the reference lays a journal's pieces -/
def pM (f l am : Nat → Int32) (g : Nat) (db : Bool) (k : Nat) : Bool := decide (f k = nI g) && decide (0 < l k) && (decide (0 < am k) == db)
def cn (l : Nat → Int32) : Nat → Nat
  | 0 => 0
  | k + 1 => cn l k + (if l k = 0 then 0 else 1)
theorem cn_out {l : Nat → Int32} {k : Nat} {x : Int32} : ∀ {n : Nat}, n ≤ k → cn (upd l k x) n = cn l n
  | 0, _ => rfl
  | n + 1, h => by rw [cn, cn, cn_out (by omega), upd_n (by omega)]
theorem cn_le {l : Nat → Int32} {k : Nat} {x : Int32} (hl : l k ≠ 0) : ∀ {n : Nat}, k < n → cn (upd l k x) n ≤ cn l n
  | 0, h => by omega
  | n + 1, h => by
    by_cases e : k = n
    · subst e; rw [cn, cn, cn_out (by omega), upd_s, if_neg hl]; split <;> omega
    · rw [cn, cn, upd_n (Ne.symm e)]; have := cn_le (x := x) hl (n := n) (by omega); omega
theorem cn_0 {l : Nat → Int32} {k : Nat} (hl : l k ≠ 0) : ∀ {n : Nat}, k < n → cn (upd l k 0) n + 1 = cn l n
  | 0, h => by omega
  | n + 1, h => by
    by_cases e : k = n
    · subst e; rw [cn, cn, cn_out (by omega), upd_s, if_neg hl, if_pos rfl]
    · rw [cn, cn, upd_n (Ne.symm e)]; have := cn_0 hl (n := n) (by omega); omega
theorem cn_1 {l : Nat → Int32} {k : Nat} (hl : l k ≠ 0) {n : Nat} (h : k < n) : 1 ≤ cn l n := by have := cn_0 hl h; omega
theorem cn_2 {l : Nat → Int32} {a b : Nat} (hab : a ≠ b) (ha : l a ≠ 0) (hb : l b ≠ 0) {n : Nat} (h1 : a < n) (h2 : b < n) : 2 ≤ cn l n := by
  have h3 := cn_0 ha h1
  have h4 := cn_1 (l := upd l a 0) (k := b) (by rw [upd_n (Ne.symm hab)]; exact hb) h2
  omega
/-- what is left, how many pieces, who gives, who takes, how much -/
abbrev MS : Type := (Nat → Int32) × Nat × (Nat → Int32) × (Nat → Int32) × (Nat → Int32)
def mnl (x y : Int32) : Int32 := if x < y then x else y
def gmS (ln : Nat → Int32) (c d : Nat) (S : MS) : MS := (upd (upd S.1 c (S.1 c - mnl (S.1 c) (S.1 d))) d (upd S.1 c (S.1 c - mnl (S.1 c) (S.1 d)) d - mnl (S.1 c) (S.1 d)), S.2.1 + 1, upd S.2.2.1 S.2.1 (ln c), upd S.2.2.2.1 S.2.1 (ln d), upd S.2.2.2.2 S.2.1 (mnl (S.1 c) (S.1 d)))
def gm (f am ln : Nat → Int32) (n g : Nat) : Nat → MS → MS
  | 0, S => S
  | m + 1, S => match ff (pM f S.1 am g false) n 0, ff (pM f S.1 am g true) n 0 with
    | some c, some d => gm f am ln n g m (gmS ln c d S)
    | _, _ => S
def gms (f am ln : Nat → Int32) (n : Nat) : Nat → MS → MS
  | 0, S => S
  | g + 1, S => gm f am ln n g 7 (gms f am ln n g S)
theorem mnl_cn {l : Nat → Int32} {c d : Nat} (hcd : c ≠ d) (hc : l c ≠ 0) (hd : l d ≠ 0) {n : Nat} (h1 : c < n) (h2 : d < n) : cn (upd (upd l c (l c - mnl (l c) (l d))) d (upd l c (l c - mnl (l c) (l d)) d - mnl (l c) (l d))) n + 1 ≤ cn l n := by
  unfold mnl
  by_cases h : l c < l d
  · rw [if_pos h, Int32.sub_self]
    have h3 := cn_0 hc h1
    have h4 := cn_le (l := upd l c 0) (k := d) (x := upd l c 0 d - l c) (by rw [upd_n (Ne.symm hcd)]; exact hd) h2
    omega
  · rw [if_neg h, upd_n (Ne.symm hcd), Int32.sub_self]
    have h3 := cn_0 (l := upd l c (l c - l d)) (k := d) (by rw [upd_n (Ne.symm hcd)]; exact hd) h2
    have h4 := cn_le (x := l c - l d) hc h1
    omega
theorem pM_ne {f l am : Nat → Int32} {g c d : Nat} (hc : pM f l am g false c = true) (hd : pM f l am g true d = true) : c ≠ d ∧ l c ≠ 0 ∧ l d ≠ 0 := by
  simp only [pM, Bool.and_eq_true, decide_eq_true_eq, beq_iff_eq] at hc hd
  refine ⟨fun e => ?_, fun e => ?_, fun e => ?_⟩
  · subst e; rw [hc.2] at hd; exact absurd hd.2 (by decide)
  · rw [e] at hc; exact absurd hc.1.2 (by decide)
  · rw [e] at hd; exact absurd hd.1.2 (by decide)
theorem gm_ok {f am ln : Nat → Int32} {n g : Nat} (hn : n ≤ 6) : ∀ {m : Nat} {S : MS}, S.2.1 + cn S.1 6 ≤ 6 → (gm f am ln n g m S).2.1 + cn (gm f am ln n g m S).1 6 ≤ 6
  | 0, S, h => h
  | m + 1, S, h => by
    unfold gm
    split
    · next c d hc hd =>
      have h1 := ff_lt hc
      have h2 := ff_lt hd
      obtain ⟨e1, e2, e3⟩ := pM_ne h1.2.2 h2.2.2
      have h3 := mnl_cn e1 e2 e3 (n := 6) (by omega) (by omega)
      exact gm_ok hn (by show S.2.1 + 1 + _ ≤ 6; exact Nat.le_trans (by omega) h)
    · exact h
theorem gms_ok {f am ln : Nat → Int32} {n : Nat} (hn : n ≤ 6) : ∀ {g : Nat} {S : MS}, S.2.1 + cn S.1 6 ≤ 6 → (gms f am ln n g S).2.1 + cn (gms f am ln n g S).1 6 ≤ 6
  | 0, S, h => h
  | g + 1, S, h => gm_ok hn (gms_ok hn h)
def zsF (s : Nat → Int32) : Nat → Nat → Int32
  | 0 => s
  | k + 1 => upd (zsF s k) k 0
def laF (n : Nat) (am l : Nat → Int32) : Nat → Nat → Int32
  | 0 => l
  | k + 1 => upd (laF n am l k) k (if n ≤ k then 0 else if am k < 0 then -am k else am k)
theorem cn_max (l : Nat → Int32) : ∀ n, cn l n ≤ n
  | 0 => Nat.le_refl _
  | n + 1 => by have := cn_max l n; rw [cn]; split <;> omega

set_option maxRecDepth 100000 in
set_option maxHeartbeats 4000000 in
theorem lp_M_nextLine (w : vWd) (a : Nat → Nat) (th : Int32) (Z : ZT) (sn gs ps : Nat) (X : Nat → Nat → Int32) (j : Nat) (na nj : Nat) (nl : Nat → Nat) (ac : Nat → Nat → Nat) (hN : okN (X 11) na nj nl ac) (hj : j < nj) (g : Nat) (db : Bool) : ∀ (m : Nat) (k : Nat), (k + m = nl j) → V w mX8_nextLine (vc w 2 0 0 (qE (some (.int (oN (ff (pM (X 17) (X 23) (mAm (X 11) j) g db) m k)))) (cG w a th Z sn gs ps X))) 0 0 3 [(0, .ref (a 0)), (1, .int (nI j)), (2, .int (nI g)), (3, .int (bi (db))), (4, .int (nI k))] [] (cG w a th Z sn gs ps X) := by
  intro m
  induction m with
  | zero =>
    intro k h1
    obtain ⟨hn0, hn1, hna, hnj, hnl, hac⟩ := id hN
    obtain ⟨hl1, hl2⟩ := hnl j hj
    obtain rfl : k = nl j := by omega
    refine V_iload dX8_nextLine_3 4 rfl ?_
    refine V_aload_n dX8_nextLine_5 0 rfl ?_
    refine V_iload_n dX8_nextLine_6 1 rfl ?_
    refine V_iconst 2 dX8_nextLine_7 (by decide) ?_
    refine V_selfR dX8_nextLine_8 lX8_167 (e_M_told w a th Z sn gs ps X j 2 (by omega)) rfl rfl 0 rfl rfl rfl rfl ?_
    refine V_casti (y := nI (nl j)) hl1 ?_
    refine V_icmp_ge_t 63 dX8_nextLine_11 (by decide) (Int32.le_refl _) ?_
    refine V_iconst (-1) dX8_nextLine_63 (by decide) ?_
    exact V_iret dX8_nextLine_64 rfl (nb rfl) (nb rfl) ⟨rfl, rfl⟩
  | succ m ih =>
    intro k h1
    obtain ⟨hn0, hn1, hna, hnj, hnl, hac⟩ := id hN
    obtain ⟨hl1, hl2⟩ := hnl j hj
    refine V_iload dX8_nextLine_3 4 rfl ?_
    refine V_aload_n dX8_nextLine_5 0 rfl ?_
    refine V_iload_n dX8_nextLine_6 1 rfl ?_
    refine V_iconst 2 dX8_nextLine_7 (by decide) ?_
    refine V_selfR dX8_nextLine_8 lX8_167 (e_M_told w a th Z sn gs ps X j 2 (by omega)) rfl rfl 0 rfl rfl rfl rfl ?_
    refine V_casti (y := nI (nl j)) hl1 ?_
    refine V_icmp_ge_f 63 dX8_nextLine_11 (by decide) (nI_ge (by omega) (by omega)) ?_
    refine V_aload_n dX8_nextLine_14 0 rfl ?_
    refine V_get dX8_nextLine_15 fX8_88 0 rfl rfl ?_
    refine V_iload dX8_nextLine_18 4 rfl ?_
    refine V_iald dX8_nextLine_20 6 rfl rfl k rfl (by omega) ?_
    refine V_iload_n dX8_nextLine_21 2 rfl ?_
    refine V_icmp_ne 57 dX8_nextLine_22 (by decide) (fun zc2 => ?_) (fun zc2 => ?_)
    · refine V_iinc (nI (k + 1)) dX8_nextLine_57 4 rfl (nI_i1 k) rfl (L' := [(0, .ref (a 0)), (1, .int (nI j)), (2, .int (nI g)), (3, .int (bi (db))), (4, .int (nI (k + 1)))]) rfl ?_
      refine V_goto 3 dX8_nextLine_60 (by decide) ?_
      rw [show ff (pM (X 17) (X 23) (mAm (X 11) j) g db) (m + 1) k = ff (pM (X 17) (X 23) (mAm (X 11) j) g db) m (k + 1) by rw [ff, if_neg (by grind [pM])]]
      exact ih (k + 1) (by omega)
    · refine V_aload_n dX8_nextLine_25 0 rfl ?_
      refine V_get dX8_nextLine_26 fX8_103 0 rfl rfl ?_
      refine V_iload dX8_nextLine_29 4 rfl ?_
      refine V_iald dX8_nextLine_31 11 rfl rfl k rfl (by omega) ?_
      refine V_if_le 57 dX8_nextLine_32 (by decide) (fun zc3 => ?_) (fun zc3 => ?_)
      · refine V_iinc (nI (k + 1)) dX8_nextLine_57 4 rfl (nI_i1 k) rfl (L' := [(0, .ref (a 0)), (1, .int (nI j)), (2, .int (nI g)), (3, .int (bi (db))), (4, .int (nI (k + 1)))]) rfl ?_
        refine V_goto 3 dX8_nextLine_60 (by decide) ?_
        rw [show ff (pM (X 17) (X 23) (mAm (X 11) j) g db) (m + 1) k = ff (pM (X 17) (X 23) (mAm (X 11) j) g db) m (k + 1) by rw [ff, if_neg (by grind [pM])]]
        exact ih (k + 1) (by omega)
      · refine V_aload_n dX8_nextLine_35 0 rfl ?_
        refine V_iload_n dX8_nextLine_36 1 rfl ?_
        refine V_iload dX8_nextLine_37 4 rfl ?_
        refine V_selfR dX8_nextLine_39 lX8_173 (e_M_amountOf w a th Z sn gs ps X j k (by omega)) rfl rfl 0 rfl rfl rfl rfl ?_
        refine V_if_le 49 dX8_nextLine_42 (by decide) (fun zc4 => ?_) (fun zc4 => ?_)
        · refine V_iconst 0 dX8_nextLine_49 (by decide) ?_
          refine V_iload_n dX8_nextLine_50 3 rfl ?_
          refine V_icmp_ne 57 dX8_nextLine_51 (by decide) (fun zc5 => ?_) (fun zc5 => ?_)
          · refine V_iinc (nI (k + 1)) dX8_nextLine_57 4 rfl (nI_i1 k) rfl (L' := [(0, .ref (a 0)), (1, .int (nI j)), (2, .int (nI g)), (3, .int (bi (db))), (4, .int (nI (k + 1)))]) rfl ?_
            refine V_goto 3 dX8_nextLine_60 (by decide) ?_
            rw [show ff (pM (X 17) (X 23) (mAm (X 11) j) g db) (m + 1) k = ff (pM (X 17) (X 23) (mAm (X 11) j) g db) m (k + 1) by rw [ff, if_neg (by grind [pM])]]
            exact ih (k + 1) (by omega)
          · refine V_iload dX8_nextLine_54 4 rfl ?_
            exact V_iret dX8_nextLine_56 rfl (nb rfl) (nb rfl) ⟨by rw [ff, if_pos (by grind [pM])]; rfl, rfl⟩
        · refine V_iconst 1 dX8_nextLine_45 (by decide) ?_
          refine V_goto 50 dX8_nextLine_46 (by decide) ?_
          refine V_iload_n dX8_nextLine_50 3 rfl ?_
          refine V_icmp_ne 57 dX8_nextLine_51 (by decide) (fun zc6 => ?_) (fun zc6 => ?_)
          · refine V_iinc (nI (k + 1)) dX8_nextLine_57 4 rfl (nI_i1 k) rfl (L' := [(0, .ref (a 0)), (1, .int (nI j)), (2, .int (nI g)), (3, .int (bi (db))), (4, .int (nI (k + 1)))]) rfl ?_
            refine V_goto 3 dX8_nextLine_60 (by decide) ?_
            rw [show ff (pM (X 17) (X 23) (mAm (X 11) j) g db) (m + 1) k = ff (pM (X 17) (X 23) (mAm (X 11) j) g db) m (k + 1) by rw [ff, if_neg (by grind [pM])]]
            exact ih (k + 1) (by omega)
          · refine V_iload dX8_nextLine_54 4 rfl ?_
            exact V_iret dX8_nextLine_56 rfl (nb rfl) (nb rfl) ⟨by rw [ff, if_pos (by grind [pM])]; rfl, rfl⟩

set_option maxRecDepth 100000 in
set_option maxHeartbeats 4000000 in
theorem e_M_nextLine (w : vWd) (a : Nat → Nat) (th : Int32) (Z : ZT) (sn gs ps : Nat) (X : Nat → Nat → Int32) (j : Nat) (na nj : Nat) (nl : Nat → Nat) (ac : Nat → Nat → Nat) (hN : okN (X 11) na nj nl ac) (hj : j < nj) (g : Nat) (db : Bool) : Ct w mX8_nextLine 2 0 0 [.ref (a 0), .int (nI j), .int (nI g), .int (bi (db))] (cG w a th Z sn gs ps X) (qE (some (.int (oN (ff (pM (X 17) (X 23) (mAm (X 11) j) g db) (nl j) 0)))) (cG w a th Z sn gs ps X)) := by
  refine Ct.of (L := [(0, .ref (a 0)), (1, .int (nI j)), (2, .int (nI g)), (3, .int (bi (db)))]) (by decide) rfl rfl ?_
  refine V_iconst 0 dX8_nextLine_0 (by decide) ?_
  refine V_istore dX8_nextLine_1 rfl (L' := [(0, .ref (a 0)), (1, .int (nI j)), (2, .int (nI g)), (3, .int (bi (db))), (4, .int 0)]) rfl ?_
  exact lp_M_nextLine w a th Z sn gs ps X j na nj nl ac hN hj g db (nl j) 0 (by omega)

/-- the reference's cells behind laysPieces: the search's rows T, the pieces' rows S -/
def cLP (w : vWd) (a : Nat → Nat) (th : Int32) (Z : ZT) (sn : Nat) (X : Nat → Nat → Int32) (T : TS) (S : MS) : va_W := cG w a th Z sn T.2.2.1 S.2.1 (uX (uX (uX (uX (uX (uX (uX X 16 T.1) 17 T.2.2.2) 18 T.2.1) 23 S.1) 20 S.2.2.1) 21 S.2.2.2.1) 22 S.2.2.2.2)
def lpT (X : Nat → Nat → Int32) (n j : Nat) : TS := tr (mAm (X 11) j) n 0 0 (X 16, zsF (X 18) 6, 0, X 17)
def lpS (X : Nat → Nat → Int32) (n j : Nat) : MS := gms (lpT X n j).2.2.2 (mAm (X 11) j) (fun k => X 11 (50 + 15 * j + (3 + 2 * k))) n (lpT X n j).2.2.1 (laF n (mAm (X 11) j) (X 23) 6, 0, X 20, X 21, X 22)
