/-! 37: CashDeriver$Tracer: trace -/
/-- the journals that count, in order -/
def gK (B : BP) : Nat → Nat × (Nat → Nat)
  | 0 => (0, fun _ => 0)
  | n + 1 => if bCnt B n 0 19 = true then ((gK B n).1 + 1, uX (gK B n).2 (gK B n).1 n) else gK B n
theorem gJ_gK (B : BP) (f : Nat → Int32) : ∀ n, (gJ B f n).1 = (gK B n).1 ∧ ∀ k, k < (gK B n).1 → (gJ B f n).2 k = nI ((gK B n).2 k) ∧ (gK B n).2 k < B.2.1
  | 0 => ⟨rfl, fun k hk => absurd hk (Nat.not_lt_zero k)⟩
  | n + 1 => by
    obtain ⟨h1, h2⟩ := gJ_gK B f n
    rw [gJ, gK]
    by_cases hc : bCnt B n 0 19 = true
    · rw [if_pos hc, if_pos hc]
      refine ⟨by show (gJ B f n).1 + 1 = (gK B n).1 + 1; rw [h1], fun k hk => ?_⟩
      have hk' : k < (gK B n).1 + 1 := hk
      show upd (gJ B f n).2 (gJ B f n).1 (nI n) k = nI (uX (gK B n).2 (gK B n).1 n k) ∧ uX (gK B n).2 (gK B n).1 n k < B.2.1
      by_cases e : k = (gK B n).1
      · subst e
        rw [uX_s, h1, upd_s]
        refine ⟨rfl, ?_⟩
        unfold bCnt at hc
        simp only [Bool.and_eq_true, decide_eq_true_eq] at hc
        exact hc.1
      · rw [uX_n e, upd_n (by omega)]
        exact h2 k (by omega)
    · rw [if_neg hc, if_neg hc]
      exact ⟨h1, h2⟩
def tQ1 (B : BP) (Q : SP) : SP := ((gJ B Q.2.2.1 30).1, Q.2.1, (gJ B Q.2.2.1 30).2, Q.2.2.2)
def tQ2 (B : BP) (g : Nat → Nat) (Q : SP) : SP := (Q.1, (gA B g Q.1 Q.2.2.2.1 Q.2.2.2.2 12).1, Q.2.2.1, (gA B g Q.1 Q.2.2.2.1 Q.2.2.2.2 12).2.1, (gA B g Q.1 Q.2.2.2.1 Q.2.2.2.2 12).2.2)
def tQ (B : BP) (Q : SP) : SP := tQ2 B (gK B 30).2 (tQ1 B Q)
theorem tQ_ok {B : BP} {Q : SP} : okQ (tQ B Q) := ⟨gJ_le B Q.2.2.1 30, gA_le _ _ _ _ _ 12⟩
def s1 (Q : SP) : Int32 := oD (fnd (fun x => sF1 Q x) (Q.1 - 0) 0)
def s2 (Q : SP) : Int32 := oD (fnd (fun x => fnd (fun y => sF2 Q x y) (x - 0) 0) (Q.1 - 1) 1)
def s3 (Q : SP) : Int32 := oD (fnd (fun x => fnd (fun y => fnd (fun z => sF3 Q x y z) (y - 0) 0) (x - 1) 1) (Q.1 - 2) 2)
def tR (Q : SP) : Int32 := if sEx Q 30 30 30 = true then 0 else if s1 Q = -1 then (if s2 Q = -1 then s3 Q else s2 Q) else s1 Q

set_option maxRecDepth 100000 in
set_option maxHeartbeats 4000000 in
theorem c_S_trace (w : vWd) (a sr : Nat → Nat) (Q : SP) (ab : Nat → Nat) (aj : Nat → Nat → Nat) (B : BP) (hB : okB B) : Ct w mX6_trace 6 0 0 [.ref (a 0), .ref (ab 0)] (cQ w a sr Q ++ cB w ab aj B) (qE (some (.int (tR (tQ B Q)))) (cQ w a sr (tQ B Q) ++ cB w ab aj B)) := by
  refine Ct.of (L := [(0, .ref (a 0)), (1, .ref (ab 0))]) (by decide) rfl rfl ?_
  refine V_aload_n dX6_trace_0 0 rfl ?_
  refine V_aload_n dX6_trace_1 1 rfl ?_
  refine V_selfE (ws' := cQ w a sr (tQ1 B Q) ++ cB w ab aj B) dX6_trace_2 lX6_30 (c_S_gatherJournals w a sr Q ab aj B hB) rfl rfl 0 rfl rfl rfl rfl ?_
  refine V_aload_n dX6_trace_5 0 rfl ?_
  refine V_aload_n dX6_trace_6 1 rfl ?_
  refine V_selfE (ws' := cQ w a sr (tQ B Q) ++ cB w ab aj B) dX6_trace_7 lX6_34 (c_S_gatherAccounts w a sr (tQ1 B Q) ab aj B hB (gK B 30).2 (gJ_le B Q.2.2.1 30) (fun n hn => (gJ_gK B Q.2.2.1 30).2 n (by have h := (gJ_gK B Q.2.2.1 30).1; exact h ▸ hn))) rfl rfl 0 rfl rfl rfl rfl ?_
  refine V_aload_n dX6_trace_10 0 rfl ?_
  refine V_bipush 30 dX6_trace_11 (by decide) ?_
  refine V_bipush 30 dX6_trace_13 (by decide) ?_
  refine V_bipush 30 dX6_trace_15 (by decide) ?_
  refine V_partR dX6_trace_17 lX6_37 (cB w ab aj B) (c_S_explain w a sr (tQ B Q) tQ_ok 30 30 30 (by omega) (by omega) (by omega)) (List.Perm.refl _) rfl rfl 0 rfl rfl rfl rfl ?_
  refine V_ifeq_b 25 dX6_trace_20 (by decide) (fun zc1 => ?_) (fun zc1 => ?_)
  · refine V_aload_n dX6_trace_25 0 rfl ?_
    refine V_partR dX6_trace_26 lX6_41 (cB w ab aj B) (c_S_searchOne w a sr (tQ B Q) tQ_ok) (List.Perm.refl _) rfl rfl 0 rfl rfl rfl rfl ?_
    refine V_istore_n dX6_trace_29 rfl (L' := [(0, .ref (a 0)), (1, .ref (ab 0)), (2, .int (s1 (tQ B Q)))]) rfl ?_
    refine V_iload_n dX6_trace_30 2 rfl ?_
    refine V_iconst (-1) dX6_trace_31 (by decide) ?_
    refine V_icmp_ne 42 dX6_trace_32 (by decide) (fun zc2 => ?_) (fun zc2 => ?_)
    · refine V_iload_n dX6_trace_42 2 rfl ?_
      refine V_istore_n dX6_trace_43 rfl (L' := [(0, .ref (a 0)), (1, .ref (ab 0)), (2, .int (s1 (tQ B Q)))]) rfl ?_
      refine V_iload_n dX6_trace_44 2 rfl ?_
      refine V_iconst (-1) dX6_trace_45 (by decide) ?_
      refine V_icmp_ne 56 dX6_trace_46 (by decide) (fun zc3 => ?_) (fun zc3 => ?_)
      · refine V_iload_n dX6_trace_56 2 rfl ?_
        exact V_iret dX6_trace_57 rfl (nb rfl) (nb rfl) ⟨by show some (Value.int (s1 (tQ B Q))) = some (Value.int (tR (tQ B Q))); clear hB; grind [tR], rfl⟩
      · refine V_aload_n dX6_trace_49 0 rfl ?_
        refine V_partR dX6_trace_50 lX6_48 (cB w ab aj B) (c_S_searchThree w a sr (tQ B Q) tQ_ok) (List.Perm.refl _) rfl rfl 0 rfl rfl rfl rfl ?_
        refine V_goto 57 dX6_trace_53 (by decide) ?_
        exact V_iret dX6_trace_57 rfl (nb rfl) (nb rfl) ⟨by show some (Value.int (s3 (tQ B Q))) = some (Value.int (tR (tQ B Q))); clear hB; grind [tR], rfl⟩
    · refine V_aload_n dX6_trace_35 0 rfl ?_
      refine V_partR dX6_trace_36 lX6_45 (cB w ab aj B) (c_S_searchTwo w a sr (tQ B Q) tQ_ok) (List.Perm.refl _) rfl rfl 0 rfl rfl rfl rfl ?_
      refine V_goto 43 dX6_trace_39 (by decide) ?_
      refine V_istore_n dX6_trace_43 rfl (L' := [(0, .ref (a 0)), (1, .ref (ab 0)), (2, .int (s2 (tQ B Q)))]) rfl ?_
      refine V_iload_n dX6_trace_44 2 rfl ?_
      refine V_iconst (-1) dX6_trace_45 (by decide) ?_
      refine V_icmp_ne 56 dX6_trace_46 (by decide) (fun zc4 => ?_) (fun zc4 => ?_)
      · refine V_iload_n dX6_trace_56 2 rfl ?_
        exact V_iret dX6_trace_57 rfl (nb rfl) (nb rfl) ⟨by show some (Value.int (s2 (tQ B Q))) = some (Value.int (tR (tQ B Q))); clear hB; grind [tR], rfl⟩
      · refine V_aload_n dX6_trace_49 0 rfl ?_
        refine V_partR dX6_trace_50 lX6_48 (cB w ab aj B) (c_S_searchThree w a sr (tQ B Q) tQ_ok) (List.Perm.refl _) rfl rfl 0 rfl rfl rfl rfl ?_
        refine V_goto 57 dX6_trace_53 (by decide) ?_
        exact V_iret dX6_trace_57 rfl (nb rfl) (nb rfl) ⟨by show some (Value.int (s3 (tQ B Q))) = some (Value.int (tR (tQ B Q))); clear hB; grind [tR], rfl⟩
  · refine V_iconst 0 dX6_trace_23 (by decide) ?_
    exact V_iret dX6_trace_24 rfl (nb rfl) (nb rfl) ⟨by show some (Value.int (0)) = some (Value.int (tR (tQ B Q))); clear hB; grind [tR], rfl⟩
