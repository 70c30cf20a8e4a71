/-! 34: CashDeriver$Tracer: gathering -/
def gJ (B : BP) (f : Nat → Int32) : Nat → Nat × (Nat → Int32)
  | 0 => (0, f)
  | n + 1 => if bCnt B n 0 19 = true then ((gJ B f n).1 + 1, upd (gJ B f n).2 (gJ B f n).1 (nI n)) else gJ B f n
theorem gJ_le (B : BP) (f : Nat → Int32) : ∀ n, (gJ B f n).1 ≤ n
  | 0 => Nat.le_refl _
  | n + 1 => by
    have h := gJ_le B f n
    rw [gJ]
    split
    · show (gJ B f n).1 + 1 ≤ n + 1; omega
    · omega

set_option maxRecDepth 100000 in
set_option maxHeartbeats 4000000 in
theorem lp_S_gj (w : vWd) (a sr : Nat → Nat) (Q : SP) (ab : Nat → Nat) (aj : Nat → Nat → Nat) (B : BP) (hB : okB B) : ∀ (m : Nat) (n : Nat), (31 ≤ n + m) → (n ≤ 30) → V w mX6_gatherJournals (vc w 2 0 0 (qE none (cQ w a sr ((gJ B Q.2.2.1 30).1, Q.2.1, (gJ B Q.2.2.1 30).2, Q.2.2.2) ++ cB w ab aj B))) 0 0 7 [(0, .ref (a 0)), (1, .ref (ab 0)), (2, .int (nI n))] [] (cQ w a sr ((gJ B Q.2.2.1 n).1, Q.2.1, (gJ B Q.2.2.1 n).2, Q.2.2.2) ++ cB w ab aj B) := by
  intro m
  induction m with
  | zero =>
    intro n h1 h2
    exact absurd h1 (by omega)
  | succ m ih =>
    intro n h1 h2
    have hg9 := gJ_le B Q.2.2.1 n
    refine V_iload_n dX6_gatherJournals_7 2 rfl ?_
    refine V_bipush 30 dX6_gatherJournals_8 (by decide) ?_
    refine V_icmp_ge_n n 30 50 dX6_gatherJournals_10 (by decide) (by omega) (by omega) (fun zc1 => ?_) (fun zc1 => ?_)
    · exact V_vret dX6_gatherJournals_50 rfl (nb rfl) (nb rfl) ⟨rfl, by rw [show n = 30 by omega]⟩
    · refine V_aload_n dX6_gatherJournals_13 1 rfl ?_
      refine V_iload_n dX6_gatherJournals_14 2 rfl ?_
      refine V_iconst 0 dX6_gatherJournals_15 (by decide) ?_
      refine V_bipush 19 dX6_gatherJournals_16 (by decide) ?_
      refine V_partR dX6_gatherJournals_18 lX6_51 (cQ w a sr ((gJ B Q.2.2.1 n).1, Q.2.1, (gJ B Q.2.2.1 n).2, Q.2.2.2)) (c_B_counting w ab aj B n 0 19 (by omega) hB) List.perm_append_comm rfl rfl 0 rfl rfl rfl rfl ?_
      by_cases hc : bCnt B n 0 19 = true
      · refine V_castv (y := .ref (aj n 0)) (if_pos hc) ?_
        refine V_ifnull dX6_gatherJournals_21 ?_
        refine V_aload_n dX6_gatherJournals_24 0 rfl ?_
        refine V_get dX6_gatherJournals_25 fX6_9 0 rfl rfl ?_
        refine V_aload_n dX6_gatherJournals_28 0 rfl ?_
        refine V_get dX6_gatherJournals_29 fX6_23 0 rfl rfl ?_
        refine V_iload_n dX6_gatherJournals_32 2 rfl ?_
        refine V_iast dX6_gatherJournals_33 1 rfl rfl (((gJ B Q.2.2.1 n).1, Q.2.1, (gJ B Q.2.2.1 n).2, Q.2.2.2).1) rfl (by omega) (ws' := cQ w a sr (((gJ B Q.2.2.1 n).1, Q.2.1, (gJ B Q.2.2.1 n).2, Q.2.2.2).1, ((gJ B Q.2.2.1 n).1, Q.2.1, (gJ B Q.2.2.1 n).2, Q.2.2.2).2.1, upd (((gJ B Q.2.2.1 n).1, Q.2.1, (gJ B Q.2.2.1 n).2, Q.2.2.2).2.2.1) (((gJ B Q.2.2.1 n).1, Q.2.1, (gJ B Q.2.2.1 n).2, Q.2.2.2).1) (nI n), ((gJ B Q.2.2.1 n).1, Q.2.1, (gJ B Q.2.2.1 n).2, Q.2.2.2).2.2.2.1, ((gJ B Q.2.2.1 n).1, Q.2.1, (gJ B Q.2.2.1 n).2, Q.2.2.2).2.2.2.2) ++ cB w ab aj B) rfl ?_
        refine V_aload_n dX6_gatherJournals_34 0 rfl ?_
        refine V_dup dX6_gatherJournals_35 rfl ?_
        refine V_get dX6_gatherJournals_36 fX6_23 0 rfl rfl ?_
        refine V_iconst 1 dX6_gatherJournals_39 (by decide) ?_
        refine V_iadd dX6_gatherJournals_40 ?_
        refine V_casti (y := nI ((((gJ B Q.2.2.1 n).1, Q.2.1, (gJ B Q.2.2.1 n).2, Q.2.2.2).1) + 1)) (nI_add (((gJ B Q.2.2.1 n).1, Q.2.1, (gJ B Q.2.2.1 n).2, Q.2.2.2).1) 1) ?_
        refine V_put dX6_gatherJournals_41 pX6_23 0 rfl rfl rfl rfl (ws' := cQ w a sr ((((gJ B Q.2.2.1 n).1, Q.2.1, (gJ B Q.2.2.1 n).2, Q.2.2.2).1) + 1, ((gJ B Q.2.2.1 n).1, Q.2.1, (gJ B Q.2.2.1 n).2, Q.2.2.2).2.1, upd (((gJ B Q.2.2.1 n).1, Q.2.1, (gJ B Q.2.2.1 n).2, Q.2.2.2).2.2.1) (((gJ B Q.2.2.1 n).1, Q.2.1, (gJ B Q.2.2.1 n).2, Q.2.2.2).1) (nI n), ((gJ B Q.2.2.1 n).1, Q.2.1, (gJ B Q.2.2.1 n).2, Q.2.2.2).2.2.2.1, ((gJ B Q.2.2.1 n).1, Q.2.1, (gJ B Q.2.2.1 n).2, Q.2.2.2).2.2.2.2) ++ cB w ab aj B) rfl ?_
        refine V_iinc (nI (n + 1)) dX6_gatherJournals_44 2 rfl (nI_i1 n) rfl (L' := [(0, .ref (a 0)), (1, .ref (ab 0)), (2, .int (nI (n + 1)))]) rfl ?_
        refine V_goto 7 dX6_gatherJournals_47 (by decide) ?_
        refine V_ws (ws' := cQ w a sr ((gJ B Q.2.2.1 (n + 1)).1, Q.2.1, (gJ B Q.2.2.1 (n + 1)).2, Q.2.2.2) ++ cB w ab aj B) (by rw [show gJ B Q.2.2.1 (n + 1) = ((gJ B Q.2.2.1 n).1 + 1, upd (gJ B Q.2.2.1 n).2 (gJ B Q.2.2.1 n).1 (nI n)) by rw [gJ, if_pos hc]]) ?_
        exact ih (n + 1) (by omega) (by omega)
      · refine V_castv (y := .null) (if_neg hc) ?_
        refine V_ifnullN 44 dX6_gatherJournals_21 (by decide) ?_
        refine V_iinc (nI (n + 1)) dX6_gatherJournals_44 2 rfl (nI_i1 n) rfl (L' := [(0, .ref (a 0)), (1, .ref (ab 0)), (2, .int (nI (n + 1)))]) rfl ?_
        refine V_goto 7 dX6_gatherJournals_47 (by decide) ?_
        refine V_ws (ws' := cQ w a sr ((gJ B Q.2.2.1 (n + 1)).1, Q.2.1, (gJ B Q.2.2.1 (n + 1)).2, Q.2.2.2) ++ cB w ab aj B) (by rw [show gJ B Q.2.2.1 (n + 1) = gJ B Q.2.2.1 n by rw [gJ, if_neg hc]]) ?_
        exact ih (n + 1) (by omega) (by omega)

set_option maxRecDepth 100000 in
set_option maxHeartbeats 4000000 in
theorem c_S_gatherJournals (w : vWd) (a sr : Nat → Nat) (Q : SP) (ab : Nat → Nat) (aj : Nat → Nat → Nat) (B : BP) (hB : okB B) : Ct w mX6_gatherJournals 2 0 0 [.ref (a 0), .ref (ab 0)] (cQ w a sr Q ++ cB w ab aj B) (qE none (cQ w a sr ((gJ B Q.2.2.1 30).1, Q.2.1, (gJ B Q.2.2.1 30).2, Q.2.2.2) ++ cB w ab aj B)) := by
  refine Ct.of (L := [(0, .ref (a 0)), (1, .ref (ab 0))]) (by decide) rfl rfl ?_
  refine V_aload_n dX6_gatherJournals_0 0 rfl ?_
  refine V_iconst 0 dX6_gatherJournals_1 (by decide) ?_
  refine V_put dX6_gatherJournals_2 pX6_23 0 rfl rfl rfl rfl (ws' := cQ w a sr (0, Q.2.1, Q.2.2.1, Q.2.2.2.1, Q.2.2.2.2) ++ cB w ab aj B) rfl ?_
  refine V_iconst 0 dX6_gatherJournals_5 (by decide) ?_
  refine V_istore_n dX6_gatherJournals_6 rfl (L' := [(0, .ref (a 0)), (1, .ref (ab 0)), (2, .int 0)]) rfl ?_
  exact lp_S_gj w a sr Q ab aj B hB 31 0 (by omega) (by omega)
