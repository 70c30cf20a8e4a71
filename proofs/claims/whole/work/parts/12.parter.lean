/-! 12: CashDeriver$Parter -/
def cP (w : vWd) (a v : Nat → Nat) (s l : Nat → Int32) : va_W := [(a 0, .inr (3, [.ref (a 1), .ref (a 2), .ref (a 3)])), (a 1, .inl (vA w 0, 6, .inl (fun j => nI (v j)))), (a 2, .inl (vA w 0, 6, .inl s)), (a 3, .inl (vA w 0, 6, .inl l))]
theorem updN (v : Nat → Nat) (k x : Nat) : upd (fun j => nI (v j)) k (nI x) = fun j => nI (uX v k x j) := by
  funext j
  by_cases h : j = k
  · simp [upd, uX, h]
  · simp [upd, uX, h]
theorem cP_set {w : vWd} {a : Nat → Nat} {v : Nat → Nat} {s l : Nat → Int32} {k x : Nat} : (cP w a v s l).set 1 (a 1, .inl (vA w 0, 6, .inl (upd (fun j => nI (v j)) k (nI x)))) = cP w a (uX v k x) s l := by
  rw [updN]; rfl
def okV (v : Nat → Nat) : Prop := ∀ k, k < 6 → v k ≤ k
def hi (v : Nat → Nat) : Nat → Nat
  | 0 => 0
  | k + 1 => max (hi v k) (v k)
theorem hi_lt {v : Nat → Nat} (h : okV v) : ∀ {k : Nat}, k < 6 → hi v (k + 1) ≤ k
  | 0, _ => by have := h 0 (by omega); simp only [hi]; omega
  | k + 1, hk => by have h1 := hi_lt h (k := k) (by omega); have h2 := h (k + 1) hk; rw [hi]; omega
theorem hi_le {v : Nat → Nat} (h : okV v) {k : Nat} (hk : k ≤ 6) : hi v k ≤ 5 := by
  cases k with
  | zero => simp [hi]
  | succ k => have := hi_lt h (k := k) (by omega); omega
theorem imax_nI {a b : Nat} (ha : a < 2147483648) (hb : b < 2147483648) : imax (nI a) (nI b) = nI (max a b) := by
  unfold imax
  have h : (nI a < nI b) = (a < b) := propext (nI_ltI ha hb)
  simp only [h]
  by_cases c : a < b
  · rw [if_pos c, Nat.max_eq_right (by omega)]
  · rw [if_neg c, Nat.max_eq_left (by omega)]
/-- the next way: from place k down; whether there is one -/
def nx : Nat → (Nat → Nat) → Bool × (Nat → Nat)
  | 0, v => (false, v)
  | k + 1, v => if v (k + 1) ≤ hi v (k + 1) then (true, uX v (k + 1) (v (k + 1) + 1)) else nx k (uX v (k + 1) 0)
theorem okV_up {v : Nat → Nat} (h : okV v) {k x : Nat} (hx : x ≤ k) : okV (uX v k x) := by
  intro j hj
  by_cases e : j = k
  · subst e; rw [uX_s]; exact hx
  · rw [uX_n e]; exact h j hj
theorem okV_nx : ∀ {k : Nat} {v : Nat → Nat}, okV v → k < 6 → okV (nx k v).2
  | 0, v, h, _ => h
  | k + 1, v, h, hk => by
    unfold nx
    split
    · next c => exact okV_up h (by have := hi_lt h (k := k) (by omega); omega)
    · exact okV_nx (okV_up h (by omega)) (by omega)
def z6 (f : Nat → Int32) : Nat → Int32 := upd (upd (upd (upd (upd (upd f 0 0) 1 0) 2 0) 3 0) 4 0) 5 0
theorem z6_at (f : Nat → Int32) {j : Nat} (h : j < 6) : z6 f j = 0 := by
  rcases (show j = 0 ∨ j = 1 ∨ j = 2 ∨ j = 3 ∨ j = 4 ∨ j = 5 by omega) with rfl | rfl | rfl | rfl | rfl | rfl <;> simp [z6, upd]
/-- the sums of the groups of the first k lines -/
def sm (v : Nat → Nat) (am s0 : Nat → Int32) : Nat → Nat → Int32
  | 0 => s0
  | k + 1 => upd (sm v am s0 k) (v k) (sm v am s0 k (v k) + am k)
def zz (s : Nat → Int32) : Nat → Bool
  | 0 => true
  | k + 1 => zz s k && decide (s k = 0)
def grp (v : Nat → Nat) (s : Nat → Int32) (n : Nat) : Nat := if zz s 6 then hi v n + 1 else 0
def tkw (v : Nat → Nat) (f : Nat → Int32) : Nat → Nat → Int32
  | 0 => f
  | k + 1 => upd (tkw v f k) k (nI (v k))
/-- a journal with these groups of lines -/
def jG (J : JP) (f : Nat → Int32) : JP := (J.1, J.2.1, J.2.2.1, J.2.2.2.1, J.2.2.2.2.1, uX J.2.2.2.2.2 2 f)

def v0 (v : Nat → Nat) : Nat → Nat := uX (uX (uX (uX (uX (uX v 0 0) 1 0) 2 0) 3 0) 4 0) 5 0
set_option maxRecDepth 100000 in
set_option maxHeartbeats 4000000 in
theorem c_P_firstWay (w : vWd) (a : Nat → Nat) (v : Nat → Nat) (s l : Nat → Int32) : Ct w mX3_firstWay 0 0 0 [.ref (a 0)] (cP w a v s l) (qE none (cP w a (v0 v) s l)) := by
  refine Ct.of (L := [(0, .ref (a 0))]) (by decide) rfl rfl ?_
  refine V_iconst 0 dX3_firstWay_0 (by decide) ?_
  refine V_istore_n dX3_firstWay_1 rfl (L' := [(0, .ref (a 0)), (1, .int 0)]) rfl ?_
  refine V_iload_n dX3_firstWay_2 1 rfl ?_
  refine V_bipush 6 dX3_firstWay_3 (by decide) ?_
  refine V_icmp_ge_f 21 dX3_firstWay_5 (by decide) (by decide) ?_
  refine V_aload_n dX3_firstWay_8 0 rfl ?_
  refine V_get dX3_firstWay_9 fX3_9 0 rfl rfl ?_
  refine V_iload_n dX3_firstWay_12 1 rfl ?_
  refine V_iconst 0 dX3_firstWay_13 (by decide) ?_
  refine V_iast dX3_firstWay_14 1 rfl rfl 0 rfl (by omega) (ws' := cP w a (uX v 0 0) s l) cP_set ?_
  refine V_iinc 1 dX3_firstWay_15 1 rfl (by decide) rfl (L' := [(0, .ref (a 0)), (1, .int 1)]) rfl ?_
  refine V_goto 2 dX3_firstWay_18 (by decide) ?_
  refine V_iload_n dX3_firstWay_2 1 rfl ?_
  refine V_bipush 6 dX3_firstWay_3 (by decide) ?_
  refine V_icmp_ge_f 21 dX3_firstWay_5 (by decide) (by decide) ?_
  refine V_aload_n dX3_firstWay_8 0 rfl ?_
  refine V_get dX3_firstWay_9 fX3_9 0 rfl rfl ?_
  refine V_iload_n dX3_firstWay_12 1 rfl ?_
  refine V_iconst 0 dX3_firstWay_13 (by decide) ?_
  refine V_iast dX3_firstWay_14 1 rfl rfl 1 rfl (by omega) (ws' := cP w a (uX (uX v 0 0) 1 0) s l) cP_set ?_
  refine V_iinc 2 dX3_firstWay_15 1 rfl (by decide) rfl (L' := [(0, .ref (a 0)), (1, .int 2)]) rfl ?_
  refine V_goto 2 dX3_firstWay_18 (by decide) ?_
  refine V_iload_n dX3_firstWay_2 1 rfl ?_
  refine V_bipush 6 dX3_firstWay_3 (by decide) ?_
  refine V_icmp_ge_f 21 dX3_firstWay_5 (by decide) (by decide) ?_
  refine V_aload_n dX3_firstWay_8 0 rfl ?_
  refine V_get dX3_firstWay_9 fX3_9 0 rfl rfl ?_
  refine V_iload_n dX3_firstWay_12 1 rfl ?_
  refine V_iconst 0 dX3_firstWay_13 (by decide) ?_
  refine V_iast dX3_firstWay_14 1 rfl rfl 2 rfl (by omega) (ws' := cP w a (uX (uX (uX v 0 0) 1 0) 2 0) s l) cP_set ?_
  refine V_iinc 3 dX3_firstWay_15 1 rfl (by decide) rfl (L' := [(0, .ref (a 0)), (1, .int 3)]) rfl ?_
  refine V_goto 2 dX3_firstWay_18 (by decide) ?_
  refine V_iload_n dX3_firstWay_2 1 rfl ?_
  refine V_bipush 6 dX3_firstWay_3 (by decide) ?_
  refine V_icmp_ge_f 21 dX3_firstWay_5 (by decide) (by decide) ?_
  refine V_aload_n dX3_firstWay_8 0 rfl ?_
  refine V_get dX3_firstWay_9 fX3_9 0 rfl rfl ?_
  refine V_iload_n dX3_firstWay_12 1 rfl ?_
  refine V_iconst 0 dX3_firstWay_13 (by decide) ?_
  refine V_iast dX3_firstWay_14 1 rfl rfl 3 rfl (by omega) (ws' := cP w a (uX (uX (uX (uX v 0 0) 1 0) 2 0) 3 0) s l) cP_set ?_
  refine V_iinc 4 dX3_firstWay_15 1 rfl (by decide) rfl (L' := [(0, .ref (a 0)), (1, .int 4)]) rfl ?_
  refine V_goto 2 dX3_firstWay_18 (by decide) ?_
  refine V_iload_n dX3_firstWay_2 1 rfl ?_
  refine V_bipush 6 dX3_firstWay_3 (by decide) ?_
  refine V_icmp_ge_f 21 dX3_firstWay_5 (by decide) (by decide) ?_
  refine V_aload_n dX3_firstWay_8 0 rfl ?_
  refine V_get dX3_firstWay_9 fX3_9 0 rfl rfl ?_
  refine V_iload_n dX3_firstWay_12 1 rfl ?_
  refine V_iconst 0 dX3_firstWay_13 (by decide) ?_
  refine V_iast dX3_firstWay_14 1 rfl rfl 4 rfl (by omega) (ws' := cP w a (uX (uX (uX (uX (uX v 0 0) 1 0) 2 0) 3 0) 4 0) s l) cP_set ?_
  refine V_iinc 5 dX3_firstWay_15 1 rfl (by decide) rfl (L' := [(0, .ref (a 0)), (1, .int 5)]) rfl ?_
  refine V_goto 2 dX3_firstWay_18 (by decide) ?_
  refine V_iload_n dX3_firstWay_2 1 rfl ?_
  refine V_bipush 6 dX3_firstWay_3 (by decide) ?_
  refine V_icmp_ge_f 21 dX3_firstWay_5 (by decide) (by decide) ?_
  refine V_aload_n dX3_firstWay_8 0 rfl ?_
  refine V_get dX3_firstWay_9 fX3_9 0 rfl rfl ?_
  refine V_iload_n dX3_firstWay_12 1 rfl ?_
  refine V_iconst 0 dX3_firstWay_13 (by decide) ?_
  refine V_iast dX3_firstWay_14 1 rfl rfl 5 rfl (by omega) (ws' := cP w a (uX (uX (uX (uX (uX (uX v 0 0) 1 0) 2 0) 3 0) 4 0) 5 0) s l) cP_set ?_
  refine V_iinc 6 dX3_firstWay_15 1 rfl (by decide) rfl (L' := [(0, .ref (a 0)), (1, .int 6)]) rfl ?_
  refine V_goto 2 dX3_firstWay_18 (by decide) ?_
  refine V_iload_n dX3_firstWay_2 1 rfl ?_
  refine V_bipush 6 dX3_firstWay_3 (by decide) ?_
  refine V_icmp_ge_t 21 dX3_firstWay_5 (by decide) (by decide) ?_
  exact V_vret dX3_firstWay_21 rfl (nb rfl) (nb rfl) ⟨rfl, rfl⟩

set_option maxRecDepth 100000 in
set_option maxHeartbeats 4000000 in
theorem lp_P_high (w : vWd) (a : Nat → Nat) (v : Nat → Nat) (s l : Nat → Int32) (n : Nat) (hn : n ≤ 6) (hv : okV v) : ∀ (m : Nat) (k : Nat), (n + 1 ≤ k + m) → (k ≤ n) → V w mX3_highestAhead (vc w 1 0 0 (qE (some (.int (nI (hi v n)))) (cP w a v s l))) 0 0 4 [(0, .ref (a 0)), (1, .int (nI n)), (2, .int (nI (hi v k))), (3, .int (nI k))] [] (cP w a v s l) := by
  intro m
  induction m with
  | zero =>
    intro k h1 h2
    exact absurd h1 (by omega)
  | succ m ih =>
    intro k h1 h2
    have hh := hi_le hv (k := k) (by omega)
    refine V_iload_n dX3_highestAhead_4 3 rfl ?_
    refine V_iload_n dX3_highestAhead_5 1 rfl ?_
    refine V_icmp_ge_n k n 26 dX3_highestAhead_6 (by decide) (by omega) (by omega) (fun zc1 => ?_) (fun zc1 => ?_)
    · refine V_iload_n dX3_highestAhead_26 2 rfl ?_
      exact V_iret dX3_highestAhead_27 rfl (nb rfl) (nb rfl) ⟨by rw [show k = n by omega], rfl⟩
    · refine V_iload_n dX3_highestAhead_9 2 rfl ?_
      refine V_aload_n dX3_highestAhead_10 0 rfl ?_
      refine V_get dX3_highestAhead_11 fX3_9 0 rfl rfl ?_
      refine V_iload_n dX3_highestAhead_14 3 rfl ?_
      refine V_iald dX3_highestAhead_15 1 rfl rfl k rfl (by omega) ?_
      have hvk := hv k (by omega)
      refine V_mmax dX3_highestAhead_16 lX3_72 rfl ?_
      refine V_casti (y := nI (hi v (k + 1))) (by rw [imax_nI (by omega) (by omega)]; rfl) ?_
      refine V_istore_n dX3_highestAhead_19 rfl (L' := [(0, .ref (a 0)), (1, .int (nI n)), (2, .int (nI (hi v (k + 1)))), (3, .int (nI k))]) rfl ?_
      refine V_iinc (nI (k + 1)) dX3_highestAhead_20 3 rfl (nI_i1 k) rfl (L' := [(0, .ref (a 0)), (1, .int (nI n)), (2, .int (nI (hi v (k + 1)))), (3, .int (nI (k + 1)))]) rfl ?_
      refine V_goto 4 dX3_highestAhead_23 (by decide) ?_
      exact ih (k + 1) (by omega) (by omega)

set_option maxRecDepth 100000 in
set_option maxHeartbeats 4000000 in
theorem c_P_highestAhead (w : vWd) (a : Nat → Nat) (v : Nat → Nat) (s l : Nat → Int32) (n : Nat) (hn : n ≤ 6) (hv : okV v) : Ct w mX3_highestAhead 1 0 0 [.ref (a 0), .int (nI n)] (cP w a v s l) (qE (some (.int (nI (hi v n)))) (cP w a v s l)) := by
  refine Ct.of (L := [(0, .ref (a 0)), (1, .int (nI n))]) (by decide) rfl rfl ?_
  refine V_iconst 0 dX3_highestAhead_0 (by decide) ?_
  refine V_istore_n dX3_highestAhead_1 rfl (L' := [(0, .ref (a 0)), (1, .int (nI n)), (2, .int 0)]) rfl ?_
  refine V_iconst 0 dX3_highestAhead_2 (by decide) ?_
  refine V_istore_n dX3_highestAhead_3 rfl (L' := [(0, .ref (a 0)), (1, .int (nI n)), (2, .int 0), (3, .int 0)]) rfl ?_
  exact lp_P_high w a v s l n hn hv (n + 1) 0 (by omega) (by omega)

set_option maxRecDepth 100000 in
set_option maxHeartbeats 4000000 in
theorem lp_P_next (w : vWd) (a : Nat → Nat) (s l : Nat → Int32) (n : Nat) : ∀ (m : Nat) (k : Nat) (v : Nat → Nat), (okV v) → (k < m) → (k ≤ 5) → V w mX3_nextWay (vc w 2 0 0 (qE (some (.int (bi (nx k v).1))) (cP w a (nx k v).2 s l))) 0 0 4 [(0, .ref (a 0)), (1, .int (nI n)), (2, .int (nI k))] [] (cP w a v s l) := by
  intro m
  induction m with
  | zero =>
    intro k v hv h1 h2
    exact absurd h1 (by omega)
  | succ m ih =>
    intro k v hv h1 h2
    refine V_iload_n dX3_nextWay_4 2 rfl ?_
    refine V_if_le_n k 47 dX3_nextWay_5 (by decide) (by omega) (fun zc1 => ?_) (fun zc1 => ?_)
    · refine V_iconst 0 dX3_nextWay_47 (by decide) ?_
      exact V_zret dX3_nextWay_48 rfl rfl (nb rfl) (nb rfl) ⟨by subst zc1; rfl, by subst zc1; rfl⟩
    · obtain ⟨q, rfl⟩ : ∃ q, k = q + 1 := ⟨k - 1, by omega⟩
      have hh := hi_lt hv (k := q) (by omega)
      have hvk := hv (q + 1) (by omega)
      refine V_aload_n dX3_nextWay_8 0 rfl ?_
      refine V_get dX3_nextWay_9 fX3_9 0 rfl rfl ?_
      refine V_iload_n dX3_nextWay_12 2 rfl ?_
      refine V_iald dX3_nextWay_13 1 rfl rfl (q + 1) rfl (by omega) ?_
      refine V_aload_n dX3_nextWay_14 0 rfl ?_
      refine V_iload_n dX3_nextWay_15 2 rfl ?_
      refine V_selfR dX3_nextWay_16 lX3_69 (c_P_highestAhead w a v s l (q + 1) (by omega) hv) rfl rfl 0 rfl rfl rfl rfl ?_
      refine V_icmp_gt_n (v (q + 1)) (hi v (q + 1)) 34 dX3_nextWay_19 (by decide) (by omega) (by omega) (fun zc2 => ?_) (fun zc2 => ?_)
      · refine V_aload_n dX3_nextWay_34 0 rfl ?_
        refine V_get dX3_nextWay_35 fX3_9 0 rfl rfl ?_
        refine V_iload_n dX3_nextWay_38 2 rfl ?_
        refine V_iconst 0 dX3_nextWay_39 (by decide) ?_
        refine V_iast dX3_nextWay_40 1 rfl rfl (q + 1) rfl (by omega) (ws' := cP w a (uX v (q + 1) 0) s l) cP_set ?_
        refine V_iinc (nI q) dX3_nextWay_41 2 rfl (pk_m1 q) rfl (L' := [(0, .ref (a 0)), (1, .int (nI n)), (2, .int (nI q))]) rfl ?_
        refine V_goto 4 dX3_nextWay_44 (by decide) ?_
        rw [show nx (q + 1) v = nx q (uX v (q + 1) 0) by rw [nx, if_neg (by omega)]]
        exact ih q (uX v (q + 1) 0) (okV_up hv (by omega)) (by omega) (by omega)
      · refine V_aload_n dX3_nextWay_22 0 rfl ?_
        refine V_get dX3_nextWay_23 fX3_9 0 rfl rfl ?_
        refine V_iload_n dX3_nextWay_26 2 rfl ?_
        refine V_dup2 dX3_nextWay_27 rfl rfl ?_
        refine V_iald dX3_nextWay_28 1 rfl rfl (q + 1) rfl (by omega) ?_
        refine V_iconst 1 dX3_nextWay_29 (by decide) ?_
        refine V_iadd dX3_nextWay_30 ?_
        refine V_casti (y := nI ((v (q + 1)) + 1)) (nI_add (v (q + 1)) 1) ?_
        refine V_iast dX3_nextWay_31 1 rfl rfl (q + 1) rfl (by omega) (ws' := cP w a (uX v (q + 1) ((v (q + 1)) + 1)) s l) cP_set ?_
        refine V_iconst 1 dX3_nextWay_32 (by decide) ?_
        exact V_zret dX3_nextWay_33 rfl rfl (nb rfl) (nb rfl) ⟨by rw [nx, if_pos (by omega)]; rfl, by rw [nx, if_pos (by omega)]⟩

set_option maxRecDepth 100000 in
set_option maxHeartbeats 4000000 in
theorem c_P_nextWay (w : vWd) (a : Nat → Nat) (v : Nat → Nat) (s l : Nat → Int32) (n : Nat) (hn : 1 ≤ n) (hn6 : n ≤ 6) (hv : okV v) : Ct w mX3_nextWay 2 0 0 [.ref (a 0), .int (nI n)] (cP w a v s l) (qE (some (.int (bi (nx (n - 1) v).1))) (cP w a (nx (n - 1) v).2 s l)) := by
  refine Ct.of (L := [(0, .ref (a 0)), (1, .int (nI n))]) (by decide) rfl rfl ?_
  refine V_iload_n dX3_nextWay_0 1 rfl ?_
  refine V_iconst 1 dX3_nextWay_1 (by decide) ?_
  refine V_isub dX3_nextWay_2 ?_
  refine V_casti (y := nI (n - 1)) (pk_sub (a := n) (b := 1) hn) ?_
  refine V_istore_n dX3_nextWay_3 rfl (L' := [(0, .ref (a 0)), (1, .int (nI n)), (2, .int (nI (n - 1)))]) rfl ?_
  exact lp_P_next w a s l n 6 (n - 1) v hv (by omega) (by omega)

theorem zz_no {s : Nat → Int32} {k : Nat} (h : ¬ s k = 0) : ∀ {m : Nat}, k < m → ¬ zz s m = true
  | 0, hm => by omega
  | m + 1, hm => by
    intro hz
    simp only [zz, Bool.and_eq_true, decide_eq_true_eq] at hz
    by_cases e : k = m
    · subst e; exact h hz.2
    · exact zz_no h (m := m) (by omega) hz.1

set_option maxRecDepth 100000 in
set_option maxHeartbeats 4000000 in
theorem lp_P_bal3 (w : vWd) (a b : Nat → Nat) (v : Nat → Nat) (s l : Nat → Int32) (J : JP) (n : Nat) (hn : n ≤ J.2.1) (hJ : okJ J) (hv : okV v) : ∀ (m : Nat) (k : Nat), (7 ≤ k + m) → (k ≤ 6) → (zz (sm v (J.2.2.2.2.2 1) (z6 s) n) k = true) → V w mX3_balancedGroups (vc w 2 0 0 (qE (some (.int (nI (grp v (sm v (J.2.2.2.2.2 1) (z6 s) n) n)))) (cP w a v (sm v (J.2.2.2.2.2 1) (z6 s) n) l ++ cJ w b J))) 0 0 73 [(0, .ref (a 0)), (1, .ref (b 0)), (2, .int (nI n)), (3, .int (nI k))] [] (cP w a v (sm v (J.2.2.2.2.2 1) (z6 s) n) l ++ cJ w b J) := by
  intro m
  induction m with
  | zero =>
    intro k h1 h2 hz
    exact absurd h1 (by omega)
  | succ m ih =>
    intro k h1 h2 hz
    obtain ⟨hJ1, hJ2, hJ3⟩ := id hJ
    have hh := hi_le hv (k := n) (by omega)
    refine V_iload_n dX3_balancedGroups_73 3 rfl ?_
    refine V_bipush 6 dX3_balancedGroups_74 (by decide) ?_
    refine V_icmp_ge_n k 6 96 dX3_balancedGroups_76 (by decide) (by omega) (by omega) (fun zc1 => ?_) (fun zc1 => ?_)
    · refine V_aload_n dX3_balancedGroups_96 0 rfl ?_
      refine V_iload_n dX3_balancedGroups_97 2 rfl ?_
      refine V_partR dX3_balancedGroups_98 lX3_69 (cJ w b J) (c_P_highestAhead w a v (sm v (J.2.2.2.2.2 1) (z6 s) n) l n (by omega) hv) (List.Perm.refl _) rfl rfl 0 rfl rfl rfl rfl ?_
      refine V_iconst 1 dX3_balancedGroups_101 (by decide) ?_
      refine V_iadd dX3_balancedGroups_102 ?_
      refine V_casti (y := nI (hi v n + 1)) (nI_add (hi v n) 1) ?_
      exact V_iret dX3_balancedGroups_103 rfl (nb rfl) (nb rfl) ⟨by rw [grp, if_pos (by rw [show (6 : Nat) = k by omega]; exact hz)], rfl⟩
    · refine V_aload_n dX3_balancedGroups_79 0 rfl ?_
      refine V_get dX3_balancedGroups_80 fX3_15 0 rfl rfl ?_
      refine V_iload_n dX3_balancedGroups_83 3 rfl ?_
      refine V_iald dX3_balancedGroups_84 2 rfl rfl k rfl (by omega) ?_
      refine V_if_eq 90 dX3_balancedGroups_85 (by decide) (fun zc2 => ?_) (fun zc2 => ?_)
      · refine V_iinc (nI (k + 1)) dX3_balancedGroups_90 3 rfl (nI_i1 k) rfl (L' := [(0, .ref (a 0)), (1, .ref (b 0)), (2, .int (nI n)), (3, .int (nI (k + 1)))]) rfl ?_
        refine V_goto 73 dX3_balancedGroups_93 (by decide) ?_
        exact ih (k + 1) (by omega) (by omega) (by rw [zz, hz, zc2]; rfl)
      · refine V_iconst 0 dX3_balancedGroups_88 (by decide) ?_
        exact V_iret dX3_balancedGroups_89 rfl (nb rfl) (nb rfl) ⟨by rw [grp, if_neg (zz_no zc2 (by omega))]; rfl, rfl⟩

set_option maxRecDepth 100000 in
set_option maxHeartbeats 4000000 in
theorem lp_P_bal2 (w : vWd) (a b : Nat → Nat) (v : Nat → Nat) (s l : Nat → Int32) (J : JP) (n : Nat) (hn : n ≤ J.2.1) (hJ : okJ J) (hv : okV v) : ∀ (m : Nat) (k : Nat), (n + 1 ≤ k + m) → (k ≤ n) → V w mX3_balancedGroups (vc w 2 0 0 (qE (some (.int (nI (grp v (sm v (J.2.2.2.2.2 1) (z6 s) n) n)))) (cP w a v (sm v (J.2.2.2.2.2 1) (z6 s) n) l ++ cJ w b J))) 0 0 23 [(0, .ref (a 0)), (1, .ref (b 0)), (2, .int (nI n)), (3, .int (nI k))] [] (cP w a v (sm v (J.2.2.2.2.2 1) (z6 s) k) l ++ cJ w b J) := by
  intro m
  induction m with
  | zero =>
    intro k h1 h2
    exact absurd h1 (by omega)
  | succ m ih =>
    intro k h1 h2
    obtain ⟨hJ1, hJ2, hJ3⟩ := id hJ
    refine V_iload_n dX3_balancedGroups_23 3 rfl ?_
    refine V_iload_n dX3_balancedGroups_24 2 rfl ?_
    refine V_icmp_ge_n k n 71 dX3_balancedGroups_25 (by decide) (by omega) (by omega) (fun zc1 => ?_) (fun zc1 => ?_)
    · refine V_iconst 0 dX3_balancedGroups_71 (by decide) ?_
      refine V_istore_n dX3_balancedGroups_72 rfl (L' := [(0, .ref (a 0)), (1, .ref (b 0)), (2, .int (nI n)), (3, .int 0)]) rfl ?_
      obtain rfl : k = n := by omega
      exact lp_P_bal3 w a b v s l J k hn hJ hv 7 0 (by omega) (by omega) rfl
    · refine V_aload_n dX3_balancedGroups_28 0 rfl ?_
      refine V_get dX3_balancedGroups_29 fX3_9 0 rfl rfl ?_
      refine V_iload_n dX3_balancedGroups_32 3 rfl ?_
      have hvk := hv k (by omega)
      refine V_iald dX3_balancedGroups_33 1 rfl rfl k rfl (by omega) ?_
      refine V_istore dX3_balancedGroups_34 rfl (L' := [(0, .ref (a 0)), (1, .ref (b 0)), (2, .int (nI n)), (3, .int (nI k)), (4, .int (nI (v k)))]) rfl ?_
      refine V_iload dX3_balancedGroups_36 4 rfl ?_
      refine V_if_lt_nf (v k) 48 dX3_balancedGroups_38 (by decide) (by omega) ?_
      refine V_iload dX3_balancedGroups_41 4 rfl ?_
      refine V_bipush 6 dX3_balancedGroups_43 (by decide) ?_
      refine V_icmp_lt_n (v k) 6 50 dX3_balancedGroups_45 (by decide) (by omega) (by omega) (fun zc3 => ?_) (fun zc3 => ?_)
      · refine V_aload_n dX3_balancedGroups_50 0 rfl ?_
        refine V_get dX3_balancedGroups_51 fX3_15 0 rfl rfl ?_
        refine V_iload dX3_balancedGroups_54 4 rfl ?_
        refine V_dup2 dX3_balancedGroups_56 rfl rfl ?_
        refine V_iald dX3_balancedGroups_57 2 rfl rfl (v k) rfl (by omega) ?_
        refine V_aload_n dX3_balancedGroups_58 1 rfl ?_
        refine V_iload_n dX3_balancedGroups_59 3 rfl ?_
        refine V_partR dX3_balancedGroups_60 lX3_55 (cP w a v (sm v (J.2.2.2.2.2 1) (z6 s) k) l) (c_J_amountOf_n w b J hJ k (by omega)) List.perm_append_comm rfl rfl 0 rfl rfl rfl rfl ?_
        refine V_iadd dX3_balancedGroups_63 ?_
        refine V_iast dX3_balancedGroups_64 2 rfl rfl (v k) rfl (by omega) (ws' := cP w a v (upd (sm v (J.2.2.2.2.2 1) (z6 s) k) (v k) (((sm v (J.2.2.2.2.2 1) (z6 s) k) (v k)) + (J.2.2.2.2.2 1 k))) l ++ cJ w b J) rfl ?_
        refine V_iinc (nI (k + 1)) dX3_balancedGroups_65 3 rfl (nI_i1 k) rfl (L' := [(0, .ref (a 0)), (1, .ref (b 0)), (2, .int (nI n)), (3, .int (nI (k + 1))), (4, .int (nI (v k)))]) rfl ?_
        refine V_goto 23 dX3_balancedGroups_68 (by decide) ?_
        refine V_dropL (L' := [(0, .ref (a 0)), (1, .ref (b 0)), (2, .int (nI n)), (3, .int (nI (k + 1)))]) (L'' := [(4, .int (nI (v k)))]) rfl ?_
        exact ih (k + 1) (by omega) (by omega)
      · exact absurd hvk (by omega)

set_option maxRecDepth 100000 in
set_option maxHeartbeats 4000000 in
theorem c_P_balancedGroups (w : vWd) (a b : Nat → Nat) (v : Nat → Nat) (s l : Nat → Int32) (J : JP) (n : Nat) (hn : n ≤ J.2.1) (hJ : okJ J) (hv : okV v) : Ct w mX3_balancedGroups 2 0 0 [.ref (a 0), .ref (b 0), .int (nI n)] (cP w a v s l ++ cJ w b J) (qE (some (.int (nI (grp v (sm v (J.2.2.2.2.2 1) (z6 s) n) n)))) (cP w a v (sm v (J.2.2.2.2.2 1) (z6 s) n) l ++ cJ w b J)) := by
  refine Ct.of (L := [(0, .ref (a 0)), (1, .ref (b 0)), (2, .int (nI n))]) (by decide) rfl rfl ?_
  refine V_iconst 0 dX3_balancedGroups_0 (by decide) ?_
  refine V_istore_n dX3_balancedGroups_1 rfl (L' := [(0, .ref (a 0)), (1, .ref (b 0)), (2, .int (nI n)), (3, .int 0)]) rfl ?_
  refine V_iload_n dX3_balancedGroups_2 3 rfl ?_
  refine V_bipush 6 dX3_balancedGroups_3 (by decide) ?_
  refine V_icmp_ge_f 21 dX3_balancedGroups_5 (by decide) (by decide) ?_
  refine V_aload_n dX3_balancedGroups_8 0 rfl ?_
  refine V_get dX3_balancedGroups_9 fX3_15 0 rfl rfl ?_
  refine V_iload_n dX3_balancedGroups_12 3 rfl ?_
  refine V_iconst 0 dX3_balancedGroups_13 (by decide) ?_
  refine V_iast dX3_balancedGroups_14 2 rfl rfl 0 rfl (by omega) (ws' := cP w a v (upd s 0 0) l ++ cJ w b J) rfl ?_
  refine V_iinc 1 dX3_balancedGroups_15 3 rfl (by decide) rfl (L' := [(0, .ref (a 0)), (1, .ref (b 0)), (2, .int (nI n)), (3, .int 1)]) rfl ?_
  refine V_goto 2 dX3_balancedGroups_18 (by decide) ?_
  refine V_iload_n dX3_balancedGroups_2 3 rfl ?_
  refine V_bipush 6 dX3_balancedGroups_3 (by decide) ?_
  refine V_icmp_ge_f 21 dX3_balancedGroups_5 (by decide) (by decide) ?_
  refine V_aload_n dX3_balancedGroups_8 0 rfl ?_
  refine V_get dX3_balancedGroups_9 fX3_15 0 rfl rfl ?_
  refine V_iload_n dX3_balancedGroups_12 3 rfl ?_
  refine V_iconst 0 dX3_balancedGroups_13 (by decide) ?_
  refine V_iast dX3_balancedGroups_14 2 rfl rfl 1 rfl (by omega) (ws' := cP w a v (upd (upd s 0 0) 1 0) l ++ cJ w b J) rfl ?_
  refine V_iinc 2 dX3_balancedGroups_15 3 rfl (by decide) rfl (L' := [(0, .ref (a 0)), (1, .ref (b 0)), (2, .int (nI n)), (3, .int 2)]) rfl ?_
  refine V_goto 2 dX3_balancedGroups_18 (by decide) ?_
  refine V_iload_n dX3_balancedGroups_2 3 rfl ?_
  refine V_bipush 6 dX3_balancedGroups_3 (by decide) ?_
  refine V_icmp_ge_f 21 dX3_balancedGroups_5 (by decide) (by decide) ?_
  refine V_aload_n dX3_balancedGroups_8 0 rfl ?_
  refine V_get dX3_balancedGroups_9 fX3_15 0 rfl rfl ?_
  refine V_iload_n dX3_balancedGroups_12 3 rfl ?_
  refine V_iconst 0 dX3_balancedGroups_13 (by decide) ?_
  refine V_iast dX3_balancedGroups_14 2 rfl rfl 2 rfl (by omega) (ws' := cP w a v (upd (upd (upd s 0 0) 1 0) 2 0) l ++ cJ w b J) rfl ?_
  refine V_iinc 3 dX3_balancedGroups_15 3 rfl (by decide) rfl (L' := [(0, .ref (a 0)), (1, .ref (b 0)), (2, .int (nI n)), (3, .int 3)]) rfl ?_
  refine V_goto 2 dX3_balancedGroups_18 (by decide) ?_
  refine V_iload_n dX3_balancedGroups_2 3 rfl ?_
  refine V_bipush 6 dX3_balancedGroups_3 (by decide) ?_
  refine V_icmp_ge_f 21 dX3_balancedGroups_5 (by decide) (by decide) ?_
  refine V_aload_n dX3_balancedGroups_8 0 rfl ?_
  refine V_get dX3_balancedGroups_9 fX3_15 0 rfl rfl ?_
  refine V_iload_n dX3_balancedGroups_12 3 rfl ?_
  refine V_iconst 0 dX3_balancedGroups_13 (by decide) ?_
  refine V_iast dX3_balancedGroups_14 2 rfl rfl 3 rfl (by omega) (ws' := cP w a v (upd (upd (upd (upd s 0 0) 1 0) 2 0) 3 0) l ++ cJ w b J) rfl ?_
  refine V_iinc 4 dX3_balancedGroups_15 3 rfl (by decide) rfl (L' := [(0, .ref (a 0)), (1, .ref (b 0)), (2, .int (nI n)), (3, .int 4)]) rfl ?_
  refine V_goto 2 dX3_balancedGroups_18 (by decide) ?_
  refine V_iload_n dX3_balancedGroups_2 3 rfl ?_
  refine V_bipush 6 dX3_balancedGroups_3 (by decide) ?_
  refine V_icmp_ge_f 21 dX3_balancedGroups_5 (by decide) (by decide) ?_
  refine V_aload_n dX3_balancedGroups_8 0 rfl ?_
  refine V_get dX3_balancedGroups_9 fX3_15 0 rfl rfl ?_
  refine V_iload_n dX3_balancedGroups_12 3 rfl ?_
  refine V_iconst 0 dX3_balancedGroups_13 (by decide) ?_
  refine V_iast dX3_balancedGroups_14 2 rfl rfl 4 rfl (by omega) (ws' := cP w a v (upd (upd (upd (upd (upd s 0 0) 1 0) 2 0) 3 0) 4 0) l ++ cJ w b J) rfl ?_
  refine V_iinc 5 dX3_balancedGroups_15 3 rfl (by decide) rfl (L' := [(0, .ref (a 0)), (1, .ref (b 0)), (2, .int (nI n)), (3, .int 5)]) rfl ?_
  refine V_goto 2 dX3_balancedGroups_18 (by decide) ?_
  refine V_iload_n dX3_balancedGroups_2 3 rfl ?_
  refine V_bipush 6 dX3_balancedGroups_3 (by decide) ?_
  refine V_icmp_ge_f 21 dX3_balancedGroups_5 (by decide) (by decide) ?_
  refine V_aload_n dX3_balancedGroups_8 0 rfl ?_
  refine V_get dX3_balancedGroups_9 fX3_15 0 rfl rfl ?_
  refine V_iload_n dX3_balancedGroups_12 3 rfl ?_
  refine V_iconst 0 dX3_balancedGroups_13 (by decide) ?_
  refine V_iast dX3_balancedGroups_14 2 rfl rfl 5 rfl (by omega) (ws' := cP w a v (upd (upd (upd (upd (upd (upd s 0 0) 1 0) 2 0) 3 0) 4 0) 5 0) l ++ cJ w b J) rfl ?_
  refine V_iinc 6 dX3_balancedGroups_15 3 rfl (by decide) rfl (L' := [(0, .ref (a 0)), (1, .ref (b 0)), (2, .int (nI n)), (3, .int 6)]) rfl ?_
  refine V_goto 2 dX3_balancedGroups_18 (by decide) ?_
  refine V_iload_n dX3_balancedGroups_2 3 rfl ?_
  refine V_bipush 6 dX3_balancedGroups_3 (by decide) ?_
  refine V_icmp_ge_t 21 dX3_balancedGroups_5 (by decide) (by decide) ?_
  refine V_iconst 0 dX3_balancedGroups_21 (by decide) ?_
  refine V_istore_n dX3_balancedGroups_22 rfl (L' := [(0, .ref (a 0)), (1, .ref (b 0)), (2, .int (nI n)), (3, .int 0)]) rfl ?_
  exact lp_P_bal2 w a b v s l J n hn hJ hv (n + 1) 0 (by omega) (by omega)

theorem jSetG_t {J : JP} {v : Nat → Nat} {f : Nat → Int32} {k : Nat} (hk : k < J.2.1) (hl : J.2.1 ≤ 6) : jSetG (jG J (tkw v f k)) (nI k) (nI (v k)) = jG J (tkw v f (k + 1)) := by
  unfold jSetG
  have h1 : inN (jG J (tkw v f k)).2.1 (nI k) = true := by
    show inN J.2.1 (nI k) = true
    rw [inN_nI hl (by omega)]; simpa using hk
  rw [if_pos h1, nI_clamp (by omega)]
  simp only [jG]
  refine congrArg (fun z => (J.1, J.2.1, J.2.2.1, J.2.2.2.1, J.2.2.2.2.1, z)) ?_
  funext j
  by_cases e : j = 2
  · simp [uX, e, tkw]
  · simp [uX, e]

set_option maxRecDepth 100000 in
set_option maxHeartbeats 4000000 in
theorem lp_P_take (w : vWd) (a b : Nat → Nat) (v : Nat → Nat) (s l : Nat → Int32) (J : JP) (n : Nat) (hn : n ≤ J.2.1) (hJ : okJ J) (hv : okV v) : ∀ (m : Nat) (k : Nat), (n + 1 ≤ k + m) → (k ≤ n) → V w mX3_takeWay (vc w 2 0 0 (qE none (cP w a v s l ++ cJ w b (jG J (tkw v (J.2.2.2.2.2 2) n))))) 0 0 2 [(0, .ref (a 0)), (1, .ref (b 0)), (2, .int (nI n)), (3, .int (nI k))] [] (cP w a v s l ++ cJ w b (jG J (tkw v (J.2.2.2.2.2 2) k))) := by
  intro m
  induction m with
  | zero =>
    intro k h1 h2
    exact absurd h1 (by omega)
  | succ m ih =>
    intro k h1 h2
    obtain ⟨hJ1, hJ2, hJ3⟩ := id hJ
    refine V_iload_n dX3_takeWay_2 3 rfl ?_
    refine V_iload_n dX3_takeWay_3 2 rfl ?_
    refine V_icmp_ge_n k n 24 dX3_takeWay_4 (by decide) (by omega) (by omega) (fun zc1 => ?_) (fun zc1 => ?_)
    · exact V_vret dX3_takeWay_24 rfl (nb rfl) (nb rfl) ⟨rfl, by rw [show k = n by omega]⟩
    · refine V_aload_n dX3_takeWay_7 1 rfl ?_
      refine V_iload_n dX3_takeWay_8 3 rfl ?_
      refine V_aload_n dX3_takeWay_9 0 rfl ?_
      refine V_get dX3_takeWay_10 fX3_9 0 rfl rfl ?_
      refine V_iload_n dX3_takeWay_13 3 rfl ?_
      have hvk := hv k (by omega)
      refine V_iald dX3_takeWay_14 1 rfl rfl k rfl (by omega) ?_
      have hjs : jSetG (jG J (tkw v (J.2.2.2.2.2 2) k)) (nI k) (nI (v k)) = jG J (tkw v (J.2.2.2.2.2 2) (k + 1)) := jSetG_t (by omega) (by omega)
      have hcs := c_J_setGroup w b (jG J (tkw v (J.2.2.2.2.2 2) k)) (nI k) (nI (v k)) hJ
      rw [hjs] at hcs
      refine V_partE (ws' := cP w a v s l ++ cJ w b (jG J (tkw v (J.2.2.2.2.2 2) (k + 1)))) dX3_takeWay_15 lX3_65 (cP w a v s l) hcs List.perm_append_comm List.perm_append_comm rfl rfl 0 rfl rfl rfl rfl ?_
      refine V_iinc (nI (k + 1)) dX3_takeWay_18 3 rfl (nI_i1 k) rfl (L' := [(0, .ref (a 0)), (1, .ref (b 0)), (2, .int (nI n)), (3, .int (nI (k + 1)))]) rfl ?_
      refine V_goto 2 dX3_takeWay_21 (by decide) ?_
      exact ih (k + 1) (by omega) (by omega)

theorem jG_id (J : JP) : jG J (J.2.2.2.2.2 2) = J := by
  unfold jG
  refine congrArg (fun z => (J.1, J.2.1, J.2.2.1, J.2.2.2.1, J.2.2.2.2.1, z)) ?_
  funext j
  by_cases e : j = 2
  · rw [e, uX_s]
  · rw [uX_n e]
theorem jG_jG (J : JP) (f g : Nat → Int32) : jG (jG J f) g = jG J g := by
  unfold jG
  refine congrArg (fun z => (J.1, J.2.1, J.2.2.1, J.2.2.2.1, J.2.2.2.2.1, z)) ?_
  funext j
  show uX (uX J.2.2.2.2.2 2 f) 2 g j = uX J.2.2.2.2.2 2 g j
  by_cases e : j = 2
  · rw [e, uX_s, uX_s]
  · rw [uX_n e, uX_n e, uX_n e]

set_option maxRecDepth 100000 in
set_option maxHeartbeats 4000000 in
theorem c_P_takeWay (w : vWd) (a b : Nat → Nat) (v : Nat → Nat) (s l : Nat → Int32) (J : JP) (n : Nat) (hn : n ≤ J.2.1) (hJ : okJ J) (hv : okV v) : Ct w mX3_takeWay 2 0 0 [.ref (a 0), .ref (b 0), .int (nI n)] (cP w a v s l ++ cJ w b J) (qE none (cP w a v s l ++ cJ w b (jG J (tkw v (J.2.2.2.2.2 2) n)))) := by
  refine Ct.of (L := [(0, .ref (a 0)), (1, .ref (b 0)), (2, .int (nI n))]) (by decide) rfl rfl ?_
  refine V_iconst 0 dX3_takeWay_0 (by decide) ?_
  refine V_istore_n dX3_takeWay_1 rfl (L' := [(0, .ref (a 0)), (1, .ref (b 0)), (2, .int (nI n)), (3, .int 0)]) rfl ?_
  have h := lp_P_take w a b v s l J n hn hJ hv (n + 1) 0 (by omega) (by omega)
  rw [show tkw v (J.2.2.2.2.2 2) 0 = J.2.2.2.2.2 2 from rfl, jG_id] at h
  exact h

/-- the search of a journal's groups: the ways that are left, whether there is one -/
def prt (am : Nat → Int32) (n : Nat) : Nat → Bool → (Nat → Nat) → (Nat → Int32) → Nat → (Nat → Int32) → (Nat → Nat) × (Nat → Int32) × Nat × (Nat → Int32)
  | 0, _, v, s, best, f => (v, s, best, f)
  | _ + 1, false, v, s, best, f => (v, s, best, f)
  | m + 1, true, v, s, best, f => prt am n m (nx (n - 1) v).1 (nx (n - 1) v).2 (sm v am (z6 s) n) (if best < grp v (sm v am (z6 s) n) n then grp v (sm v am (z6 s) n) n else best) (if best < grp v (sm v am (z6 s) n) n then tkw v f n else f)
def jD (J : JP) (best : Nat) (f : Nat → Int32) : JP := (J.1, J.2.1, best, J.2.2.2.1, J.2.2.2.2.1, uX J.2.2.2.2.2 2 f)
theorem jG_t (J : JP) (f : Nat → Int32) (v : Nat → Nat) (n : Nat) : jG (jG J f) (tkw v ((jG J f).2.2.2.2.2 2) n) = jG J (tkw v f n) := jG_jG J f _
theorem imin_6 : ∀ n : Nat, n ≤ 6 → imin (nI n) 6 = nI n := by decide +kernel
theorem grp_le {v : Nat → Nat} {s : Nat → Int32} {n : Nat} (hv : okV v) (hn : n ≤ 6) : grp v s n ≤ 6 := by
  unfold grp
  have := hi_le hv hn
  split <;> omega

set_option maxRecDepth 100000 in
set_option maxHeartbeats 4000000 in
theorem ex_P_part (w : vWd) (a b : Nat → Nat) (l : Nat → Int32) (J : JP) (v : Nat → Nat) (s : Nat → Int32) (best k : Nat) (go : Bool) (f : Nat → Int32) : V w mX3_part (vc w 3 0 0 (qE none (cP w a v s l ++ cJ w b (jD J best f)))) 0 0 71 [(0, .ref (a 0)), (1, .ref (b 0)), (2, .int (nI (J.2.1))), (3, .int (nI best)), (4, .int (bi (go))), (5, .int (nI k))] [] (cP w a v s l ++ cJ w b (jG J f)) := by
  refine V_aload_n dX3_part_71 1 rfl ?_
  refine V_iload_n dX3_part_72 3 rfl ?_
  refine V_partE (ws' := cP w a v s l ++ cJ w b (jD J best f)) dX3_part_73 lX3_48 (cP w a v s l) (c_J_setGroups w b (jG J f) best) List.perm_append_comm List.perm_append_comm rfl rfl 0 rfl rfl rfl rfl ?_
  exact V_vret dX3_part_76 rfl (nb rfl) (nb rfl) ⟨rfl, rfl⟩

set_option maxRecDepth 100000 in
set_option maxHeartbeats 4000000 in
theorem lp_P_part (w : vWd) (a b : Nat → Nat) (l : Nat → Int32) (J : JP) (hJ : okJ J) (h2 : 2 ≤ J.2.1) : ∀ (m : Nat) (k : Nat) (go : Bool) (v : Nat → Nat) (s : Nat → Int32) (best : Nat) (f : Nat → Int32), (okV v) → (best ≤ 6) → (k + m = 203) → V w mX3_part (vc w 3 0 0 (qE none (cP w a (prt (J.2.2.2.2.2 1) J.2.1 m go v s best f).1 (prt (J.2.2.2.2.2 1) J.2.1 m go v s best f).2.1 l ++ cJ w b (jD J (prt (J.2.2.2.2.2 1) J.2.1 m go v s best f).2.2.1 (prt (J.2.2.2.2.2 1) J.2.1 m go v s best f).2.2.2)))) 0 0 22 [(0, .ref (a 0)), (1, .ref (b 0)), (2, .int (nI (J.2.1))), (3, .int (nI best)), (4, .int (bi (go))), (5, .int (nI k))] [] (cP w a v s l ++ cJ w b (jG J f)) := by
  intro m
  induction m with
  | zero =>
    intro k go v s best f hv hb h1
    obtain rfl : k = 203 := by omega
    refine V_iload dX3_part_22 5 rfl ?_
    refine V_sipush 203 dX3_part_24 (by decide) ?_
    refine V_icmp_ge_t 71 dX3_part_27 (by decide) (by decide) ?_
    exact ex_P_part w a b l J v s best 203 go f
  | succ m ih =>
    intro k go v s best f hv hb h1
    obtain ⟨hJ1, hJ2, hJ3⟩ := id hJ
    have hgl := grp_le (s := (sm v (J.2.2.2.2.2 1) (z6 s) J.2.1)) hv (n := J.2.1) (by omega)
    refine V_iload dX3_part_22 5 rfl ?_
    refine V_sipush 203 dX3_part_24 (by decide) ?_
    refine V_icmp_ge_f 71 dX3_part_27 (by decide) (by rw [show (203 : Int32) = nI 203 from rfl]; exact nI_ge (by omega) (by omega)) ?_
    refine V_iload dX3_part_30 4 rfl ?_
    refine V_ifeq_b 71 dX3_part_32 (by decide) (fun zc2 => ?_) (fun zc2 => ?_)
    · subst zc2; exact ex_P_part w a b l J v s best k false f
    · subst zc2
      refine V_aload_n dX3_part_35 0 rfl ?_
      refine V_aload_n dX3_part_36 1 rfl ?_
      refine V_iload_n dX3_part_37 2 rfl ?_
      refine V_selfE (ws' := cP w a v (sm v (J.2.2.2.2.2 1) (z6 s) J.2.1) l ++ cJ w b (jG J f)) dX3_part_38 lX3_36 (c_P_balancedGroups w a b v s l (jG J f) J.2.1 (Nat.le_refl _) hJ hv) rfl rfl 0 rfl rfl rfl rfl ?_
      refine V_istore dX3_part_41 rfl (L' := [(0, .ref (a 0)), (1, .ref (b 0)), (2, .int (nI (J.2.1))), (3, .int (nI best)), (4, .int (bi (true))), (5, .int (nI k)), (6, .int (nI (grp v (sm v (J.2.2.2.2.2 1) (z6 s) J.2.1) J.2.1)))]) rfl ?_
      refine V_iload dX3_part_43 6 rfl ?_
      refine V_iload_n dX3_part_45 3 rfl ?_
      refine V_icmp_le_n (grp v (sm v (J.2.2.2.2.2 1) (z6 s) J.2.1) J.2.1) best 58 dX3_part_46 (by decide) (by omega) (by omega) (fun zc3 => ?_) (fun zc3 => ?_)
      · refine V_aload_n dX3_part_58 0 rfl ?_
        refine V_iload_n dX3_part_59 2 rfl ?_
        refine V_partE (ws' := cP w a ((nx (J.2.1 - 1) v).2) (sm v (J.2.2.2.2.2 1) (z6 s) J.2.1) l ++ cJ w b (jG J f)) dX3_part_60 lX3_44 (cJ w b (jG J f)) (c_P_nextWay w a v (sm v (J.2.2.2.2.2 1) (z6 s) J.2.1) l J.2.1 (by omega) (by omega) hv) (List.Perm.refl _) (List.Perm.refl _) rfl rfl 0 rfl rfl rfl rfl ?_
        refine V_istore dX3_part_63 rfl (L' := [(0, .ref (a 0)), (1, .ref (b 0)), (2, .int (nI (J.2.1))), (3, .int (nI best)), (4, .int (bi ((nx (J.2.1 - 1) v).1))), (5, .int (nI k)), (6, .int (nI (grp v (sm v (J.2.2.2.2.2 1) (z6 s) J.2.1) J.2.1)))]) rfl ?_
        refine V_iinc (nI (k + 1)) dX3_part_65 5 rfl (nI_i1 k) rfl (L' := [(0, .ref (a 0)), (1, .ref (b 0)), (2, .int (nI (J.2.1))), (3, .int (nI best)), (4, .int (bi ((nx (J.2.1 - 1) v).1))), (5, .int (nI (k + 1))), (6, .int (nI (grp v (sm v (J.2.2.2.2.2 1) (z6 s) J.2.1) J.2.1)))]) rfl ?_
        refine V_goto 22 dX3_part_68 (by decide) ?_
        refine V_dropL (L' := [(0, .ref (a 0)), (1, .ref (b 0)), (2, .int (nI (J.2.1))), (3, .int (nI best)), (4, .int (bi ((nx (J.2.1 - 1) v).1))), (5, .int (nI (k + 1)))]) (L'' := [(6, .int (nI (grp v (sm v (J.2.2.2.2.2 1) (z6 s) J.2.1) J.2.1)))]) rfl ?_
        have hi1 := ih (k + 1) (nx (J.2.1 - 1) v).1 (nx (J.2.1 - 1) v).2 (sm v (J.2.2.2.2.2 1) (z6 s) J.2.1) best f (okV_nx hv (by omega)) (by have := grp_le (s := (sm v (J.2.2.2.2.2 1) (z6 s) J.2.1)) hv (n := J.2.1) (by omega); omega) (by omega)
        rw [show prt (J.2.2.2.2.2 1) J.2.1 (m + 1) true v s best f = prt (J.2.2.2.2.2 1) J.2.1 m (nx (J.2.1 - 1) v).1 (nx (J.2.1 - 1) v).2 (sm v (J.2.2.2.2.2 1) (z6 s) J.2.1) best f by rw [prt, if_neg (by omega), if_neg (by omega)]]
        exact hi1
      · refine V_iload dX3_part_49 6 rfl ?_
        refine V_istore_n dX3_part_51 rfl (L' := [(0, .ref (a 0)), (1, .ref (b 0)), (2, .int (nI (J.2.1))), (3, .int (nI (grp v (sm v (J.2.2.2.2.2 1) (z6 s) J.2.1) J.2.1))), (4, .int (bi (true))), (5, .int (nI k)), (6, .int (nI (grp v (sm v (J.2.2.2.2.2 1) (z6 s) J.2.1) J.2.1)))]) rfl ?_
        refine V_aload_n dX3_part_52 0 rfl ?_
        refine V_aload_n dX3_part_53 1 rfl ?_
        refine V_iload_n dX3_part_54 2 rfl ?_
        have hct := c_P_takeWay w a b v (sm v (J.2.2.2.2.2 1) (z6 s) J.2.1) l (jG J f) J.2.1 (Nat.le_refl _) hJ hv
        rw [jG_t] at hct
        refine V_selfE (ws' := cP w a v (sm v (J.2.2.2.2.2 1) (z6 s) J.2.1) l ++ cJ w b (jG J (tkw v f J.2.1))) dX3_part_55 lX3_40 hct rfl rfl 0 rfl rfl rfl rfl ?_
        refine V_aload_n dX3_part_58 0 rfl ?_
        refine V_iload_n dX3_part_59 2 rfl ?_
        refine V_partE (ws' := cP w a ((nx (J.2.1 - 1) v).2) (sm v (J.2.2.2.2.2 1) (z6 s) J.2.1) l ++ cJ w b (jG J (tkw v f J.2.1))) dX3_part_60 lX3_44 (cJ w b (jG J (tkw v f J.2.1))) (c_P_nextWay w a v (sm v (J.2.2.2.2.2 1) (z6 s) J.2.1) l J.2.1 (by omega) (by omega) hv) (List.Perm.refl _) (List.Perm.refl _) rfl rfl 0 rfl rfl rfl rfl ?_
        refine V_istore dX3_part_63 rfl (L' := [(0, .ref (a 0)), (1, .ref (b 0)), (2, .int (nI (J.2.1))), (3, .int (nI (grp v (sm v (J.2.2.2.2.2 1) (z6 s) J.2.1) J.2.1))), (4, .int (bi ((nx (J.2.1 - 1) v).1))), (5, .int (nI k)), (6, .int (nI (grp v (sm v (J.2.2.2.2.2 1) (z6 s) J.2.1) J.2.1)))]) rfl ?_
        refine V_iinc (nI (k + 1)) dX3_part_65 5 rfl (nI_i1 k) rfl (L' := [(0, .ref (a 0)), (1, .ref (b 0)), (2, .int (nI (J.2.1))), (3, .int (nI (grp v (sm v (J.2.2.2.2.2 1) (z6 s) J.2.1) J.2.1))), (4, .int (bi ((nx (J.2.1 - 1) v).1))), (5, .int (nI (k + 1))), (6, .int (nI (grp v (sm v (J.2.2.2.2.2 1) (z6 s) J.2.1) J.2.1)))]) rfl ?_
        refine V_goto 22 dX3_part_68 (by decide) ?_
        refine V_dropL (L' := [(0, .ref (a 0)), (1, .ref (b 0)), (2, .int (nI (J.2.1))), (3, .int (nI (grp v (sm v (J.2.2.2.2.2 1) (z6 s) J.2.1) J.2.1))), (4, .int (bi ((nx (J.2.1 - 1) v).1))), (5, .int (nI (k + 1)))]) (L'' := [(6, .int (nI (grp v (sm v (J.2.2.2.2.2 1) (z6 s) J.2.1) J.2.1)))]) rfl ?_
        have hi1 := ih (k + 1) (nx (J.2.1 - 1) v).1 (nx (J.2.1 - 1) v).2 (sm v (J.2.2.2.2.2 1) (z6 s) J.2.1) (grp v (sm v (J.2.2.2.2.2 1) (z6 s) J.2.1) J.2.1) (tkw v f J.2.1) (okV_nx hv (by omega)) (by have := grp_le (s := (sm v (J.2.2.2.2.2 1) (z6 s) J.2.1)) hv (n := J.2.1) (by omega); omega) (by omega)
        rw [show prt (J.2.2.2.2.2 1) J.2.1 (m + 1) true v s best f = prt (J.2.2.2.2.2 1) J.2.1 m (nx (J.2.1 - 1) v).1 (nx (J.2.1 - 1) v).2 (sm v (J.2.2.2.2.2 1) (z6 s) J.2.1) (grp v (sm v (J.2.2.2.2.2 1) (z6 s) J.2.1) J.2.1) (tkw v f J.2.1) by rw [prt, if_pos (by omega), if_pos (by omega)]]
        exact hi1

def prtR (J : JP) (v : Nat → Nat) (s : Nat → Int32) : (Nat → Nat) × (Nat → Int32) × Nat × (Nat → Int32) := prt (J.2.2.2.2.2 1) J.2.1 203 true (v0 v) s 0 (J.2.2.2.2.2 2)
theorem okV_0 (v : Nat → Nat) : okV (v0 v) := by
  intro k hk
  rcases (show k = 0 ∨ k = 1 ∨ k = 2 ∨ k = 3 ∨ k = 4 ∨ k = 5 by omega) with rfl | rfl | rfl | rfl | rfl | rfl <;> simp [v0, uX]

set_option maxRecDepth 100000 in
set_option maxHeartbeats 4000000 in
theorem c_P_part (w : vWd) (a b : Nat → Nat) (v : Nat → Nat) (s l : Nat → Int32) (J : JP) (hJ : okJ J) (h2 : 2 ≤ J.2.1) : Ct w mX3_part 3 0 0 [.ref (a 0), .ref (b 0)] (cP w a v s l ++ cJ w b J) (qE none (cP w a (prtR J v s).1 (prtR J v s).2.1 l ++ cJ w b (jD J (prtR J v s).2.2.1 (prtR J v s).2.2.2))) := by
  refine Ct.of (L := [(0, .ref (a 0)), (1, .ref (b 0))]) (by decide) rfl rfl ?_
  refine V_aload_n dX3_part_0 1 rfl ?_
  refine V_partR dX3_part_1 lX3_21 (cP w a v s l) (c_J_lines w b J) List.perm_append_comm rfl rfl 0 rfl rfl rfl rfl ?_
  refine V_bipush 6 dX3_part_4 (by decide) ?_
  refine V_mmin dX3_part_6 lX3_27 rfl ?_
  refine V_casti (y := nI (J.2.1)) (imin_6 _ hJ.1) ?_
  refine V_istore_n dX3_part_9 rfl (L' := [(0, .ref (a 0)), (1, .ref (b 0)), (2, .int (nI (J.2.1)))]) rfl ?_
  refine V_iconst 0 dX3_part_10 (by decide) ?_
  refine V_istore_n dX3_part_11 rfl (L' := [(0, .ref (a 0)), (1, .ref (b 0)), (2, .int (nI (J.2.1))), (3, .int 0)]) rfl ?_
  refine V_iconst 1 dX3_part_12 (by decide) ?_
  refine V_istore dX3_part_13 rfl (L' := [(0, .ref (a 0)), (1, .ref (b 0)), (2, .int (nI (J.2.1))), (3, .int 0), (4, .int 1)]) rfl ?_
  refine V_aload_n dX3_part_15 0 rfl ?_
  refine V_partE (ws' := cP w a (v0 v) s l ++ cJ w b J) dX3_part_16 lX3_33 (cJ w b J) (c_P_firstWay w a v s l) (List.Perm.refl _) (List.Perm.refl _) rfl rfl 0 rfl rfl rfl rfl ?_
  refine V_iconst 0 dX3_part_19 (by decide) ?_
  refine V_istore dX3_part_20 rfl (L' := [(0, .ref (a 0)), (1, .ref (b 0)), (2, .int (nI (J.2.1))), (3, .int 0), (4, .int 1), (5, .int 0)]) rfl ?_
  have h := lp_P_part w a b l J hJ h2 203 0 true (v0 v) s 0 (J.2.2.2.2.2 2) (okV_0 v) (by omega) (by omega)
  rw [jG_id] at h
  exact h

def ff (p : Nat → Bool) : Nat → Nat → Option Nat
  | 0, _ => none
  | m + 1, k => if p k then some k else ff p m (k + 1)
theorem ff_lt {p : Nat → Bool} : ∀ {m k c : Nat}, ff p m k = some c → k ≤ c ∧ c < k + m ∧ p c = true
  | 0, k, c, h => by simp [ff] at h
  | m + 1, k, c, h => by
    unfold ff at h
    split at h
    · next hp => cases h; exact ⟨by omega, by omega, hp⟩
    · have := ff_lt h; exact ⟨by omega, by omega, this.2.2⟩
def oN : Option Nat → Int32
  | some k => nI k
  | none => -1
/-- line k is of group g and has something left on the side of sg -/
def pL (J : JP) (l : Nat → Int32) (g : Nat) (sg : Int32) (k : Nat) : Bool := decide (jGrp J (nI k) = nI g) && decide (0 < l k * sg)
/-- a piece of group g -/
def cgS (g : Nat) (l : Nat → Int32) (J : JP) (c d : Nat) : (Nat → Int32) × JP :=
  (upd (upd l c (l c + imin (-l c) (l d))) d (upd l c (l c + imin (-l c) (l d)) d - imin (-l c) (l d)), jPiece J (jAcc J (nI c)) (jAcc J (nI d)) (imin (-l c) (l d)))
def cg (g : Nat) : Nat → (Nat → Int32) → JP → (Nat → Int32) × JP
  | 0, l, J => (l, J)
  | m + 1, l, J => match ff (pL J l g (-1)) 6 0, ff (pL J l g 1) 6 0 with
    | some c, some d => cg g m (cgS g l J c d).1 (cgS g l J c d).2
    | _, _ => (l, J)
def cgs : Nat → Nat → (Nat → Int32) → JP → (Nat → Int32) × JP
  | 0, _, l, J => (l, J)
  | m + 1, g, l, J => cgs m (g + 1) (cg g 6 l J).1 (cg g 6 l J).2
theorem okJ_piece {J : JP} (h : okJ J) (x y z : Int32) : okJ (jPiece J x y z) := by
  unfold jPiece
  split
  · exact ⟨h.1, by have := h.2.1; show J.2.2.2.1 + 1 ≤ 6; omega, h.2.2⟩
  · exact h
theorem okJ_cg {g : Nat} : ∀ {m : Nat} {l : Nat → Int32} {J : JP}, okJ J → okJ (cg g m l J).2
  | 0, l, J, h => h
  | m + 1, l, J, h => by
    unfold cg
    split
    · exact okJ_cg (okJ_piece h _ _ _)
    · exact h
theorem jPiece_g (J : JP) (x y z : Int32) : (jPiece J x y z).2.2.1 = J.2.2.1 := by
  unfold jPiece; split <;> rfl
theorem cg_g {g : Nat} : ∀ {m : Nat} {l : Nat → Int32} {J : JP}, (cg g m l J).2.2.2.1 = J.2.2.1
  | 0, l, J => rfl
  | m + 1, l, J => by
    unfold cg
    split
    · rw [cg_g]; exact jPiece_g J _ _ _
    · rfl
theorem nI_ne_m1 {c : Nat} (h : c < 2147483648) : ¬ nI c = -1 := by
  intro e
  have h1 := nI_pos' h
  rw [e] at h1
  exact absurd h1 (by decide)

set_option maxRecDepth 100000 in
set_option maxHeartbeats 4000000 in
theorem lp_P_firstLeft (w : vWd) (a b : Nat → Nat) (v : Nat → Nat) (s l : Nat → Int32) (J : JP) (hJ : okJ J) (g : Nat) (sg : Int32) : ∀ (m : Nat) (k : Nat), (k + m = 6) → V w mX3_firstLeft (vc w 2 0 0 (qE (some (.int (oN (ff (pL J l g sg) m k)))) (cP w a v s l ++ cJ w b J))) 0 0 3 [(0, .ref (a 0)), (1, .ref (b 0)), (2, .int (nI g)), (3, .int sg), (4, .int (nI k))] [] (cP w a v s l ++ cJ w b J) := by
  intro m
  induction m with
  | zero =>
    intro k h1
    obtain rfl : k = 6 := by omega
    refine V_iload dX3_firstLeft_3 4 rfl ?_
    refine V_bipush 6 dX3_firstLeft_5 (by decide) ?_
    refine V_icmp_ge_t 41 dX3_firstLeft_7 (by decide) (by decide) ?_
    refine V_iconst (-1) dX3_firstLeft_41 (by decide) ?_
    exact V_iret dX3_firstLeft_42 rfl (nb rfl) (nb rfl) ⟨rfl, rfl⟩
  | succ m ih =>
    intro k h1
    refine V_iload dX3_firstLeft_3 4 rfl ?_
    refine V_bipush 6 dX3_firstLeft_5 (by decide) ?_
    refine V_icmp_ge_f 41 dX3_firstLeft_7 (by decide) (by rw [show (6 : Int32) = nI 6 from rfl]; exact nI_ge (by omega) (by omega)) ?_
    refine V_aload_n dX3_firstLeft_10 1 rfl ?_
    refine V_iload dX3_firstLeft_11 4 rfl ?_
    refine V_partR dX3_firstLeft_13 lX3_86 (cP w a v s l) (c_J_groupOf w b J (nI k) hJ) List.perm_append_comm rfl rfl 0 rfl rfl rfl rfl ?_
    refine V_iload_n dX3_firstLeft_16 2 rfl ?_
    refine V_icmp_ne 35 dX3_firstLeft_17 (by decide) (fun zc2 => ?_) (fun zc2 => ?_)
    · refine V_iinc (nI (k + 1)) dX3_firstLeft_35 4 rfl (nI_i1 k) rfl (L' := [(0, .ref (a 0)), (1, .ref (b 0)), (2, .int (nI g)), (3, .int sg), (4, .int (nI (k + 1)))]) rfl ?_
      refine V_goto 3 dX3_firstLeft_38 (by decide) ?_
      rw [show ff (pL J l g sg) (m + 1) k = ff (pL J l g sg) m (k + 1) by rw [ff, if_neg (by grind [pL])]]
      exact ih (k + 1) (by omega)
    · refine V_aload_n dX3_firstLeft_20 0 rfl ?_
      refine V_get dX3_firstLeft_21 fX3_18 0 rfl rfl ?_
      refine V_iload dX3_firstLeft_24 4 rfl ?_
      refine V_iald dX3_firstLeft_26 3 rfl rfl k rfl (by omega) ?_
      refine V_iload_n dX3_firstLeft_27 3 rfl ?_
      refine V_imul dX3_firstLeft_28 ?_
      refine V_if_le 35 dX3_firstLeft_29 (by decide) (fun zc3 => ?_) (fun zc3 => ?_)
      · refine V_iinc (nI (k + 1)) dX3_firstLeft_35 4 rfl (nI_i1 k) rfl (L' := [(0, .ref (a 0)), (1, .ref (b 0)), (2, .int (nI g)), (3, .int sg), (4, .int (nI (k + 1)))]) rfl ?_
        refine V_goto 3 dX3_firstLeft_38 (by decide) ?_
        rw [show ff (pL J l g sg) (m + 1) k = ff (pL J l g sg) m (k + 1) by rw [ff, if_neg (by grind [pL])]]
        exact ih (k + 1) (by omega)
      · refine V_iload dX3_firstLeft_32 4 rfl ?_
        exact V_iret dX3_firstLeft_34 rfl (nb rfl) (nb rfl) ⟨by rw [ff, if_pos (by grind [pL])]; rfl, rfl⟩

set_option maxRecDepth 100000 in
set_option maxHeartbeats 4000000 in
theorem c_P_firstLeft (w : vWd) (a b : Nat → Nat) (v : Nat → Nat) (s l : Nat → Int32) (J : JP) (hJ : okJ J) (g : Nat) (sg : Int32) : Ct w mX3_firstLeft 2 0 0 [.ref (a 0), .ref (b 0), .int (nI g), .int sg] (cP w a v s l ++ cJ w b J) (qE (some (.int (oN (ff (pL J l g sg) 6 0)))) (cP w a v s l ++ cJ w b J)) := by
  refine Ct.of (L := [(0, .ref (a 0)), (1, .ref (b 0)), (2, .int (nI g)), (3, .int sg)]) (by decide) rfl rfl ?_
  refine V_iconst 0 dX3_firstLeft_0 (by decide) ?_
  refine V_istore dX3_firstLeft_1 rfl (L' := [(0, .ref (a 0)), (1, .ref (b 0)), (2, .int (nI g)), (3, .int sg), (4, .int 0)]) rfl ?_
  exact lp_P_firstLeft w a b v s l J hJ g sg 6 0 (by omega)

set_option maxRecDepth 100000 in
set_option maxHeartbeats 4000000 in
theorem lp_P_cutGroup (w : vWd) (a b : Nat → Nat) (v : Nat → Nat) (s : Nat → Int32) (g : Nat) : ∀ (m : Nat) (k : Nat) (l : Nat → Int32) (J : JP), (okJ J) → (k + m = 6) → V w mX3_cutGroup (vc w 3 0 0 (qE none (cP w a v s (cg g m l J).1 ++ cJ w b (cg g m l J).2))) 0 0 2 [(0, .ref (a 0)), (1, .ref (b 0)), (2, .int (nI g)), (3, .int (nI k))] [] (cP w a v s l ++ cJ w b J) := by
  intro m
  induction m with
  | zero =>
    intro k l J hJ h1
    obtain rfl : k = 6 := by omega
    refine V_iload_n dX3_cutGroup_2 3 rfl ?_
    refine V_bipush 6 dX3_cutGroup_3 (by decide) ?_
    refine V_icmp_ge_t 107 dX3_cutGroup_5 (by decide) (by decide) ?_
    exact V_vret dX3_cutGroup_107 rfl (nb rfl) (nb rfl) ⟨rfl, rfl⟩
  | succ m ih =>
    intro k l J hJ h1
    refine V_iload_n dX3_cutGroup_2 3 rfl ?_
    refine V_bipush 6 dX3_cutGroup_3 (by decide) ?_
    refine V_icmp_ge_f 107 dX3_cutGroup_5 (by decide) (by rw [show (6 : Int32) = nI 6 from rfl]; exact nI_ge (by omega) (by omega)) ?_
    refine V_aload_n dX3_cutGroup_8 0 rfl ?_
    refine V_aload_n dX3_cutGroup_9 1 rfl ?_
    refine V_iload_n dX3_cutGroup_10 2 rfl ?_
    refine V_iconst (-1) dX3_cutGroup_11 (by decide) ?_
    refine V_selfR dX3_cutGroup_12 lX3_75 (c_P_firstLeft w a b v s l J hJ g (-1)) rfl rfl 0 rfl rfl rfl rfl ?_
    cases hfc : ff (pL J l g (-1)) 6 0 with
    | none =>
      refine V_casti (y := (-1)) rfl ?_
      refine V_istore dX3_cutGroup_15 rfl (L' := [(0, .ref (a 0)), (1, .ref (b 0)), (2, .int (nI g)), (3, .int (nI k)), (4, .int (-1))]) rfl ?_
      refine V_aload_n dX3_cutGroup_17 0 rfl ?_
      refine V_aload_n dX3_cutGroup_18 1 rfl ?_
      refine V_iload_n dX3_cutGroup_19 2 rfl ?_
      refine V_iconst 1 dX3_cutGroup_20 (by decide) ?_
      refine V_selfR dX3_cutGroup_21 lX3_75 (c_P_firstLeft w a b v s l J hJ g (1)) rfl rfl 0 rfl rfl rfl rfl ?_
      cases hfd : ff (pL J l g (1)) 6 0 with
      | none =>
        refine V_casti (y := (-1)) rfl ?_
        refine V_istore dX3_cutGroup_24 rfl (L' := [(0, .ref (a 0)), (1, .ref (b 0)), (2, .int (nI g)), (3, .int (nI k)), (4, .int (-1)), (5, .int (-1))]) rfl ?_
        refine V_iload dX3_cutGroup_26 4 rfl ?_
        refine V_iconst (-1) dX3_cutGroup_28 (by decide) ?_
        refine V_icmp_eq_t 38 dX3_cutGroup_29 (by decide) (by decide) ?_
        exact V_vret dX3_cutGroup_38 rfl (nb rfl) (nb rfl) ⟨rfl, by rw [cg, hfc]⟩
      | some d =>
        have hd := ff_lt hfd
        refine V_casti (y := nI d) rfl ?_
        refine V_istore dX3_cutGroup_24 rfl (L' := [(0, .ref (a 0)), (1, .ref (b 0)), (2, .int (nI g)), (3, .int (nI k)), (4, .int (-1)), (5, .int (nI d))]) rfl ?_
        refine V_iload dX3_cutGroup_26 4 rfl ?_
        refine V_iconst (-1) dX3_cutGroup_28 (by decide) ?_
        refine V_icmp_eq_t 38 dX3_cutGroup_29 (by decide) (by decide) ?_
        exact V_vret dX3_cutGroup_38 rfl (nb rfl) (nb rfl) ⟨rfl, by rw [cg, hfc]⟩
    | some c =>
      have hc := ff_lt hfc
      refine V_casti (y := nI c) rfl ?_
      refine V_istore dX3_cutGroup_15 rfl (L' := [(0, .ref (a 0)), (1, .ref (b 0)), (2, .int (nI g)), (3, .int (nI k)), (4, .int (nI c))]) rfl ?_
      refine V_aload_n dX3_cutGroup_17 0 rfl ?_
      refine V_aload_n dX3_cutGroup_18 1 rfl ?_
      refine V_iload_n dX3_cutGroup_19 2 rfl ?_
      refine V_iconst 1 dX3_cutGroup_20 (by decide) ?_
      refine V_selfR dX3_cutGroup_21 lX3_75 (c_P_firstLeft w a b v s l J hJ g (1)) rfl rfl 0 rfl rfl rfl rfl ?_
      cases hfd : ff (pL J l g (1)) 6 0 with
      | none =>
        refine V_casti (y := (-1)) rfl ?_
        refine V_istore dX3_cutGroup_24 rfl (L' := [(0, .ref (a 0)), (1, .ref (b 0)), (2, .int (nI g)), (3, .int (nI k)), (4, .int (nI c)), (5, .int (-1))]) rfl ?_
        refine V_iload dX3_cutGroup_26 4 rfl ?_
        refine V_iconst (-1) dX3_cutGroup_28 (by decide) ?_
        refine V_icmp_eq_f 38 dX3_cutGroup_29 (by decide) (nI_ne_m1 (by omega)) ?_
        refine V_iload dX3_cutGroup_32 5 rfl ?_
        refine V_iconst (-1) dX3_cutGroup_34 (by decide) ?_
        refine V_icmp_ne_f 39 dX3_cutGroup_35 (by decide) (by decide) ?_
        exact V_vret dX3_cutGroup_38 rfl (nb rfl) (nb rfl) ⟨rfl, by rw [cg, hfc, hfd]⟩
      | some d =>
        have hd := ff_lt hfd
        refine V_casti (y := nI d) rfl ?_
        refine V_istore dX3_cutGroup_24 rfl (L' := [(0, .ref (a 0)), (1, .ref (b 0)), (2, .int (nI g)), (3, .int (nI k)), (4, .int (nI c)), (5, .int (nI d))]) rfl ?_
        refine V_iload dX3_cutGroup_26 4 rfl ?_
        refine V_iconst (-1) dX3_cutGroup_28 (by decide) ?_
        refine V_icmp_eq_f 38 dX3_cutGroup_29 (by decide) (nI_ne_m1 (by omega)) ?_
        refine V_iload dX3_cutGroup_32 5 rfl ?_
        refine V_iconst (-1) dX3_cutGroup_34 (by decide) ?_
        refine V_icmp_ne_t 39 dX3_cutGroup_35 (by decide) (nI_ne_m1 (by omega)) ?_
        refine V_aload_n dX3_cutGroup_39 0 rfl ?_
        refine V_get dX3_cutGroup_40 fX3_18 0 rfl rfl ?_
        refine V_iload dX3_cutGroup_43 4 rfl ?_
        refine V_iald dX3_cutGroup_45 3 rfl rfl c rfl (by omega) ?_
        refine V_ineg dX3_cutGroup_46 ?_
        refine V_aload_n dX3_cutGroup_47 0 rfl ?_
        refine V_get dX3_cutGroup_48 fX3_18 0 rfl rfl ?_
        refine V_iload dX3_cutGroup_51 5 rfl ?_
        refine V_iald dX3_cutGroup_53 3 rfl rfl d rfl (by omega) ?_
        refine V_mmin dX3_cutGroup_54 lX3_27 rfl ?_
        refine V_casti (y := imin (-l c) (l d)) rfl ?_
        refine V_istore dX3_cutGroup_57 rfl (L' := [(0, .ref (a 0)), (1, .ref (b 0)), (2, .int (nI g)), (3, .int (nI k)), (4, .int (nI c)), (5, .int (nI d)), (6, .int (imin (-l c) (l d)))]) rfl ?_
        refine V_aload_n dX3_cutGroup_59 0 rfl ?_
        refine V_get dX3_cutGroup_60 fX3_18 0 rfl rfl ?_
        refine V_iload dX3_cutGroup_63 4 rfl ?_
        refine V_dup2 dX3_cutGroup_65 rfl rfl ?_
        refine V_iald dX3_cutGroup_66 3 rfl rfl c rfl (by omega) ?_
        refine V_iload dX3_cutGroup_67 6 rfl ?_
        refine V_iadd dX3_cutGroup_69 ?_
        refine V_iast dX3_cutGroup_70 3 rfl rfl c rfl (by omega) (ws' := cP w a v s (upd l c ((l c) + (imin (-l c) (l d)))) ++ cJ w b J) rfl ?_
        refine V_aload_n dX3_cutGroup_71 0 rfl ?_
        refine V_get dX3_cutGroup_72 fX3_18 0 rfl rfl ?_
        refine V_iload dX3_cutGroup_75 5 rfl ?_
        refine V_dup2 dX3_cutGroup_77 rfl rfl ?_
        refine V_iald dX3_cutGroup_78 3 rfl rfl d rfl (by omega) ?_
        refine V_iload dX3_cutGroup_79 6 rfl ?_
        refine V_isub dX3_cutGroup_81 ?_
        refine V_iast dX3_cutGroup_82 3 rfl rfl d rfl (by omega) (ws' := cP w a v s (upd (upd l c ((l c) + (imin (-l c) (l d)))) d (((upd l c ((l c) + (imin (-l c) (l d)))) d) - (imin (-l c) (l d)))) ++ cJ w b J) rfl ?_
        refine V_aload_n dX3_cutGroup_83 1 rfl ?_
        refine V_aload_n dX3_cutGroup_84 1 rfl ?_
        refine V_iload dX3_cutGroup_85 4 rfl ?_
        refine V_partR dX3_cutGroup_87 lX3_79 (cP w a v s (upd (upd l c ((l c) + (imin (-l c) (l d)))) d (((upd l c ((l c) + (imin (-l c) (l d)))) d) - (imin (-l c) (l d))))) (c_J_accountOf w b J (nI c) hJ) List.perm_append_comm rfl rfl 0 rfl rfl rfl rfl ?_
        refine V_aload_n dX3_cutGroup_90 1 rfl ?_
        refine V_iload dX3_cutGroup_91 5 rfl ?_
        refine V_partR dX3_cutGroup_93 lX3_79 (cP w a v s (upd (upd l c ((l c) + (imin (-l c) (l d)))) d (((upd l c ((l c) + (imin (-l c) (l d)))) d) - (imin (-l c) (l d))))) (c_J_accountOf w b J (nI d) hJ) List.perm_append_comm rfl rfl 0 rfl rfl rfl rfl ?_
        refine V_iload dX3_cutGroup_96 6 rfl ?_
        refine V_partE (ws' := cP w a v s ((cgS g l J c d).1) ++ cJ w b (cgS g l J c d).2) dX3_cutGroup_98 lX3_82 (cP w a v s (cgS g l J c d).1) (c_J_addPiece w b J (jAcc J (nI c)) (jAcc J (nI d)) (imin (-l c) (l d)) hJ) List.perm_append_comm List.perm_append_comm rfl rfl 0 rfl rfl rfl rfl ?_
        refine V_iinc (nI (k + 1)) dX3_cutGroup_101 3 rfl (nI_i1 k) rfl (L' := [(0, .ref (a 0)), (1, .ref (b 0)), (2, .int (nI g)), (3, .int (nI (k + 1))), (4, .int (nI c)), (5, .int (nI d)), (6, .int (imin (-l c) (l d)))]) rfl ?_
        refine V_goto 2 dX3_cutGroup_104 (by decide) ?_
        refine V_dropL (L' := [(0, .ref (a 0)), (1, .ref (b 0)), (2, .int (nI g)), (3, .int (nI (k + 1)))]) (L'' := [(4, .int (nI c)), (5, .int (nI d)), (6, .int (imin (-l c) (l d)))]) rfl ?_
        rw [show cg g (m + 1) l J = cg g m (cgS g l J c d).1 (cgS g l J c d).2 by rw [cg, hfc, hfd]]
        exact ih (k + 1) (cgS g l J c d).1 (cgS g l J c d).2 (okJ_piece hJ _ _ _) (by omega)

set_option maxRecDepth 100000 in
set_option maxHeartbeats 4000000 in
theorem c_P_cutGroup (w : vWd) (a b : Nat → Nat) (v : Nat → Nat) (s l : Nat → Int32) (J : JP) (hJ : okJ J) (g : Nat) : Ct w mX3_cutGroup 3 0 0 [.ref (a 0), .ref (b 0), .int (nI g)] (cP w a v s l ++ cJ w b J) (qE none (cP w a v s (cg g 6 l J).1 ++ cJ w b (cg g 6 l J).2)) := by
  refine Ct.of (L := [(0, .ref (a 0)), (1, .ref (b 0)), (2, .int (nI g))]) (by decide) rfl rfl ?_
  refine V_iconst 0 dX3_cutGroup_0 (by decide) ?_
  refine V_istore_n dX3_cutGroup_1 rfl (L' := [(0, .ref (a 0)), (1, .ref (b 0)), (2, .int (nI g)), (3, .int 0)]) rfl ?_
  exact lp_P_cutGroup w a b v s g 6 0 l J hJ (by omega)

def lf (J : JP) (l : Nat → Int32) : Nat → Int32 := upd (upd (upd (upd (upd (upd l 0 (jAmt J 0)) 1 (jAmt J 1)) 2 (jAmt J 2)) 3 (jAmt J 3)) 4 (jAmt J 4)) 5 (jAmt J 5)
def jNoP (J : JP) : JP := (J.1, J.2.1, J.2.2.1, 0, J.2.2.2.2.1, J.2.2.2.2.2)
def cutR (J : JP) (l : Nat → Int32) : (Nat → Int32) × JP := cgs J.2.2.1 0 (lf J l) (jNoP J)

set_option maxRecDepth 100000 in
set_option maxHeartbeats 4000000 in
theorem lp_P_cut (w : vWd) (a b : Nat → Nat) (v : Nat → Nat) (s : Nat → Int32) : ∀ (m : Nat) (g : Nat) (l : Nat → Int32) (J : JP), (okJ J) → (g + m = J.2.2.1) → V w mX3_cut (vc w 4 0 0 (qE none (cP w a v s (cgs m g l J).1 ++ cJ w b (cgs m g l J).2))) 0 0 31 [(0, .ref (a 0)), (1, .ref (b 0)), (2, .int (nI g))] [] (cP w a v s l ++ cJ w b J) := by
  intro m
  induction m with
  | zero =>
    intro g l J hJ h1
    obtain rfl : g = J.2.2.1 := by omega
    refine V_iload_n dX3_cut_31 2 rfl ?_
    refine V_aload_n dX3_cut_32 1 rfl ?_
    refine V_partR dX3_cut_33 lX3_59 (cP w a v s l) (c_J_groups w b J) List.perm_append_comm rfl rfl 0 rfl rfl rfl rfl ?_
    refine V_icmp_ge_t 51 dX3_cut_36 (by decide) (by first | exact Int32.le_refl _ | simp) ?_
    exact V_vret dX3_cut_51 rfl (nb rfl) (nb rfl) ⟨rfl, rfl⟩
  | succ m ih =>
    intro g l J hJ h1
    obtain ⟨hJ1, hJ2, hJ3⟩ := id hJ
    refine V_iload_n dX3_cut_31 2 rfl ?_
    refine V_aload_n dX3_cut_32 1 rfl ?_
    refine V_partR dX3_cut_33 lX3_59 (cP w a v s l) (c_J_groups w b J) List.perm_append_comm rfl rfl 0 rfl rfl rfl rfl ?_
    refine V_icmp_ge_f 51 dX3_cut_36 (by decide) (nI_ge (by omega) (by omega)) ?_
    refine V_aload_n dX3_cut_39 0 rfl ?_
    refine V_aload_n dX3_cut_40 1 rfl ?_
    refine V_iload_n dX3_cut_41 2 rfl ?_
    refine V_selfE (ws' := cP w a v s ((cg g 6 l J).1) ++ cJ w b (cg g 6 l J).2) dX3_cut_42 lX3_62 (c_P_cutGroup w a b v s l J hJ g) rfl rfl 0 rfl rfl rfl rfl ?_
    refine V_iinc (nI (g + 1)) dX3_cut_45 2 rfl (nI_i1 g) rfl (L' := [(0, .ref (a 0)), (1, .ref (b 0)), (2, .int (nI (g + 1)))]) rfl ?_
    refine V_goto 31 dX3_cut_48 (by decide) ?_
    exact ih (g + 1) (cg g 6 l J).1 (cg g 6 l J).2 (okJ_cg hJ) (by rw [cg_g]; omega)

set_option maxRecDepth 100000 in
set_option maxHeartbeats 4000000 in
theorem c_P_cut (w : vWd) (a b : Nat → Nat) (v : Nat → Nat) (s l : Nat → Int32) (J : JP) (hJ : okJ J) : Ct w mX3_cut 4 0 0 [.ref (a 0), .ref (b 0)] (cP w a v s l ++ cJ w b J) (qE none (cP w a v s (cutR J l).1 ++ cJ w b (cutR J l).2)) := by
  refine Ct.of (L := [(0, .ref (a 0)), (1, .ref (b 0))]) (by decide) rfl rfl ?_
  refine V_aload_n dX3_cut_0 1 rfl ?_
  refine V_partE (ws' := cP w a v s l ++ cJ w b (jNoP J)) dX3_cut_1 lX3_52 (cP w a v s l) (c_J_dropPieces w b J) List.perm_append_comm List.perm_append_comm rfl rfl 0 rfl rfl rfl rfl ?_
  refine V_iconst 0 dX3_cut_4 (by decide) ?_
  refine V_istore_n dX3_cut_5 rfl (L' := [(0, .ref (a 0)), (1, .ref (b 0)), (2, .int 0)]) rfl ?_
  refine V_iload_n dX3_cut_6 2 rfl ?_
  refine V_bipush 6 dX3_cut_7 (by decide) ?_
  refine V_icmp_ge_f 29 dX3_cut_9 (by decide) (by decide) ?_
  refine V_aload_n dX3_cut_12 0 rfl ?_
  refine V_get dX3_cut_13 fX3_18 0 rfl rfl ?_
  refine V_iload_n dX3_cut_16 2 rfl ?_
  refine V_aload_n dX3_cut_17 1 rfl ?_
  refine V_iload_n dX3_cut_18 2 rfl ?_
  refine V_partR dX3_cut_19 lX3_55 (cP w a v s l) (c_J_amountOf w b (jNoP J) 0 ⟨hJ.1, Nat.zero_le _, hJ.2.2⟩) List.perm_append_comm rfl rfl 0 rfl rfl rfl rfl ?_
  refine V_iast dX3_cut_22 3 rfl rfl 0 rfl (by omega) (ws' := cP w a v s (upd l 0 (jAmt J 0)) ++ cJ w b (jNoP J)) rfl ?_
  refine V_iinc 1 dX3_cut_23 2 rfl (by decide) rfl (L' := [(0, .ref (a 0)), (1, .ref (b 0)), (2, .int 1)]) rfl ?_
  refine V_goto 6 dX3_cut_26 (by decide) ?_
  refine V_iload_n dX3_cut_6 2 rfl ?_
  refine V_bipush 6 dX3_cut_7 (by decide) ?_
  refine V_icmp_ge_f 29 dX3_cut_9 (by decide) (by decide) ?_
  refine V_aload_n dX3_cut_12 0 rfl ?_
  refine V_get dX3_cut_13 fX3_18 0 rfl rfl ?_
  refine V_iload_n dX3_cut_16 2 rfl ?_
  refine V_aload_n dX3_cut_17 1 rfl ?_
  refine V_iload_n dX3_cut_18 2 rfl ?_
  refine V_partR dX3_cut_19 lX3_55 (cP w a v s (upd l 0 (jAmt J 0))) (c_J_amountOf w b (jNoP J) 1 ⟨hJ.1, Nat.zero_le _, hJ.2.2⟩) List.perm_append_comm rfl rfl 0 rfl rfl rfl rfl ?_
  refine V_iast dX3_cut_22 3 rfl rfl 1 rfl (by omega) (ws' := cP w a v s (upd (upd l 0 (jAmt J 0)) 1 (jAmt J 1)) ++ cJ w b (jNoP J)) rfl ?_
  refine V_iinc 2 dX3_cut_23 2 rfl (by decide) rfl (L' := [(0, .ref (a 0)), (1, .ref (b 0)), (2, .int 2)]) rfl ?_
  refine V_goto 6 dX3_cut_26 (by decide) ?_
  refine V_iload_n dX3_cut_6 2 rfl ?_
  refine V_bipush 6 dX3_cut_7 (by decide) ?_
  refine V_icmp_ge_f 29 dX3_cut_9 (by decide) (by decide) ?_
  refine V_aload_n dX3_cut_12 0 rfl ?_
  refine V_get dX3_cut_13 fX3_18 0 rfl rfl ?_
  refine V_iload_n dX3_cut_16 2 rfl ?_
  refine V_aload_n dX3_cut_17 1 rfl ?_
  refine V_iload_n dX3_cut_18 2 rfl ?_
  refine V_partR dX3_cut_19 lX3_55 (cP w a v s (upd (upd l 0 (jAmt J 0)) 1 (jAmt J 1))) (c_J_amountOf w b (jNoP J) 2 ⟨hJ.1, Nat.zero_le _, hJ.2.2⟩) List.perm_append_comm rfl rfl 0 rfl rfl rfl rfl ?_
  refine V_iast dX3_cut_22 3 rfl rfl 2 rfl (by omega) (ws' := cP w a v s (upd (upd (upd l 0 (jAmt J 0)) 1 (jAmt J 1)) 2 (jAmt J 2)) ++ cJ w b (jNoP J)) rfl ?_
  refine V_iinc 3 dX3_cut_23 2 rfl (by decide) rfl (L' := [(0, .ref (a 0)), (1, .ref (b 0)), (2, .int 3)]) rfl ?_
  refine V_goto 6 dX3_cut_26 (by decide) ?_
  refine V_iload_n dX3_cut_6 2 rfl ?_
  refine V_bipush 6 dX3_cut_7 (by decide) ?_
  refine V_icmp_ge_f 29 dX3_cut_9 (by decide) (by decide) ?_
  refine V_aload_n dX3_cut_12 0 rfl ?_
  refine V_get dX3_cut_13 fX3_18 0 rfl rfl ?_
  refine V_iload_n dX3_cut_16 2 rfl ?_
  refine V_aload_n dX3_cut_17 1 rfl ?_
  refine V_iload_n dX3_cut_18 2 rfl ?_
  refine V_partR dX3_cut_19 lX3_55 (cP w a v s (upd (upd (upd l 0 (jAmt J 0)) 1 (jAmt J 1)) 2 (jAmt J 2))) (c_J_amountOf w b (jNoP J) 3 ⟨hJ.1, Nat.zero_le _, hJ.2.2⟩) List.perm_append_comm rfl rfl 0 rfl rfl rfl rfl ?_
  refine V_iast dX3_cut_22 3 rfl rfl 3 rfl (by omega) (ws' := cP w a v s (upd (upd (upd (upd l 0 (jAmt J 0)) 1 (jAmt J 1)) 2 (jAmt J 2)) 3 (jAmt J 3)) ++ cJ w b (jNoP J)) rfl ?_
  refine V_iinc 4 dX3_cut_23 2 rfl (by decide) rfl (L' := [(0, .ref (a 0)), (1, .ref (b 0)), (2, .int 4)]) rfl ?_
  refine V_goto 6 dX3_cut_26 (by decide) ?_
  refine V_iload_n dX3_cut_6 2 rfl ?_
  refine V_bipush 6 dX3_cut_7 (by decide) ?_
  refine V_icmp_ge_f 29 dX3_cut_9 (by decide) (by decide) ?_
  refine V_aload_n dX3_cut_12 0 rfl ?_
  refine V_get dX3_cut_13 fX3_18 0 rfl rfl ?_
  refine V_iload_n dX3_cut_16 2 rfl ?_
  refine V_aload_n dX3_cut_17 1 rfl ?_
  refine V_iload_n dX3_cut_18 2 rfl ?_
  refine V_partR dX3_cut_19 lX3_55 (cP w a v s (upd (upd (upd (upd l 0 (jAmt J 0)) 1 (jAmt J 1)) 2 (jAmt J 2)) 3 (jAmt J 3))) (c_J_amountOf w b (jNoP J) 4 ⟨hJ.1, Nat.zero_le _, hJ.2.2⟩) List.perm_append_comm rfl rfl 0 rfl rfl rfl rfl ?_
  refine V_iast dX3_cut_22 3 rfl rfl 4 rfl (by omega) (ws' := cP w a v s (upd (upd (upd (upd (upd l 0 (jAmt J 0)) 1 (jAmt J 1)) 2 (jAmt J 2)) 3 (jAmt J 3)) 4 (jAmt J 4)) ++ cJ w b (jNoP J)) rfl ?_
  refine V_iinc 5 dX3_cut_23 2 rfl (by decide) rfl (L' := [(0, .ref (a 0)), (1, .ref (b 0)), (2, .int 5)]) rfl ?_
  refine V_goto 6 dX3_cut_26 (by decide) ?_
  refine V_iload_n dX3_cut_6 2 rfl ?_
  refine V_bipush 6 dX3_cut_7 (by decide) ?_
  refine V_icmp_ge_f 29 dX3_cut_9 (by decide) (by decide) ?_
  refine V_aload_n dX3_cut_12 0 rfl ?_
  refine V_get dX3_cut_13 fX3_18 0 rfl rfl ?_
  refine V_iload_n dX3_cut_16 2 rfl ?_
  refine V_aload_n dX3_cut_17 1 rfl ?_
  refine V_iload_n dX3_cut_18 2 rfl ?_
  refine V_partR dX3_cut_19 lX3_55 (cP w a v s (upd (upd (upd (upd (upd l 0 (jAmt J 0)) 1 (jAmt J 1)) 2 (jAmt J 2)) 3 (jAmt J 3)) 4 (jAmt J 4))) (c_J_amountOf w b (jNoP J) 5 ⟨hJ.1, Nat.zero_le _, hJ.2.2⟩) List.perm_append_comm rfl rfl 0 rfl rfl rfl rfl ?_
  refine V_iast dX3_cut_22 3 rfl rfl 5 rfl (by omega) (ws' := cP w a v s (upd (upd (upd (upd (upd (upd l 0 (jAmt J 0)) 1 (jAmt J 1)) 2 (jAmt J 2)) 3 (jAmt J 3)) 4 (jAmt J 4)) 5 (jAmt J 5)) ++ cJ w b (jNoP J)) rfl ?_
  refine V_iinc 6 dX3_cut_23 2 rfl (by decide) rfl (L' := [(0, .ref (a 0)), (1, .ref (b 0)), (2, .int 6)]) rfl ?_
  refine V_goto 6 dX3_cut_26 (by decide) ?_
  refine V_iload_n dX3_cut_6 2 rfl ?_
  refine V_bipush 6 dX3_cut_7 (by decide) ?_
  refine V_icmp_ge_t 29 dX3_cut_9 (by decide) (by decide) ?_
  refine V_iconst 0 dX3_cut_29 (by decide) ?_
  refine V_istore_n dX3_cut_30 rfl (L' := [(0, .ref (a 0)), (1, .ref (b 0)), (2, .int 0)]) rfl ?_
  exact lp_P_cut w a b v s J.2.2.1 0 (lf J l) (jNoP J) ⟨hJ.1, Nat.zero_le _, hJ.2.2⟩ (Nat.zero_add _)
