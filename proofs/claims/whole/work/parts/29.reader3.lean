/-! 29: CashDeriver$Reader: lines and accounts -/
def okR (T : TP) (P : RP) : Prop := P.2.2.1 ≤ T.1 ∧ P.2.1 ≤ P.2.2.1 ∧ P.1 ≤ 5
theorem okR_st {T : TP} {P : RP} : okR T (stR T P) := ⟨stR_nx.1, stR_pn, stR_nx.2.2⟩
theorem okR_rf {T : TP} {P : RP} {k : Nat} (h : okR T P) : okR T (rRf k P) := h
theorem okR_inb {T : TP} {P : RP} {b : Int32} (h : okR T P) : okR T (inb P b).2 := by
  unfold inb
  split
  · split
    · exact h
    · exact h
  · exact h
theorem okR_am1 {T : TP} {P : RP} (h : okR T P) : okR T (am1 T P) := by
  unfold am1
  split
  · exact okR_st
  · exact h
theorem okR_am {T : TP} {P : RP} {lo : Int32} (h : okR T P) : okR T (rAm T P lo).2 := by
  have h1 := okR_am1 h
  unfold rAm
  split
  · split
    · exact h1
    · exact okR_st
  · exact h1
def rLn (T : TP) (P : RP) (J : JP) (b : Int32) : Bool × RP × JP := if (inb P b).1 = true then (if (rAm T (stR T (inb P b).2) 1).1 = true then (true, (rAm T (stR T (inb P b).2) 1).2, jAdd J (inb P b).2.2.2.2.1 (rAm T (stR T (inb P b).2) 1).2.2.2.2.2.1) else (false, (rAm T (stR T (inb P b).2) 1).2, J)) else (false, (inb P b).2, J)
theorem okR_ln {T : TP} {P : RP} {J : JP} {b : Int32} (h : okR T P) : okR T (rLn T P J b).2.1 := by
  unfold rLn
  split
  · split
    · exact okR_am okR_st
    · exact okR_am okR_st
  · exact okR_inb h
def ac2 (T : TP) (P : RP) : Bool × RP := rAm T (stR T (stR T P)) 0
def rAc (T : TP) (P : RP) (B : BP) : Bool × RP × BP := if B.1 < 12 then (if kdF T (stR T P) 6 0 = -1 then (false, rRf 1 (stR T P), B) else if (ac2 T P).1 = true then (if (ac2 T P).2.1 = 4 then (true, stR T (ac2 T P).2, bAddA B (kdF T (stR T P) 6 0) (ac2 T P).2.2.2.2.2.1) else (false, rRf 1 (ac2 T P).2, B)) else (false, (ac2 T P).2, B)) else (false, rRf 3 P, B)

set_option maxRecDepth 100000 in
set_option maxHeartbeats 4000000 in
theorem c_R_readLine (w : vWd) (r : Nat) (t : Nat → Nat) (P : RP) (T : TP) (b : Nat → Nat) (J : JP) (x : Int32) (hT : T.1 ≤ 640) (hP : okR T P) (hJ : okJ J) : Ct w mX4_readLine 4 0 0 [.ref (r), .ref (b 0), .int x] (cR w r t P T ++ cJ w b J) (qE (some (.int (bi (rLn T P J x).1))) (cR w r t (rLn T P J x).2.1 T ++ cJ w b (rLn T P J x).2.2)) := by
  refine Ct.of (L := [(0, .ref (r)), (1, .ref (b 0)), (2, .int x)]) (by decide) rfl rfl ?_
  refine V_aload_n dX4_readLine_0 0 rfl ?_
  refine V_iload_n dX4_readLine_1 2 rfl ?_
  refine V_partE (ws' := cR w r t ((inb P x).2) T ++ cJ w b J) dX4_readLine_2 lX4_86 (cJ w b J) (c_R_isNumberBelow w r t P T x hP.2.2) (List.Perm.refl _) (List.Perm.refl _) rfl rfl 0 rfl rfl rfl rfl ?_
  refine V_ifne_b 10 dX4_readLine_5 (by decide) (fun zc1 => ?_) (fun zc1 => ?_)
  · refine V_aload_n dX4_readLine_10 0 rfl ?_
    refine V_get dX4_readLine_11 fX4_21 0 rfl rfl ?_
    refine V_istore_n dX4_readLine_14 rfl (L' := [(0, .ref (r)), (1, .ref (b 0)), (2, .int x), (3, .int (((inb P x).2).2.2.2.1))]) rfl ?_
    refine V_aload_n dX4_readLine_15 0 rfl ?_
    refine V_partE (ws' := cR w r t (stR T ((inb P x).2)) T ++ cJ w b J) dX4_readLine_16 lX4_42 (cJ w b J) (c_R_step w r t ((inb P x).2) T hT (okR_inb hP).1) (List.Perm.refl _) (List.Perm.refl _) rfl rfl 0 rfl rfl rfl rfl ?_
    refine V_aload_n dX4_readLine_19 0 rfl ?_
    refine V_iconst 1 dX4_readLine_20 (by decide) ?_
    refine V_partE (ws' := cR w r t ((rAm T (stR T ((inb P x).2)) 1).2) T ++ cJ w b J) dX4_readLine_21 lX4_76 (cJ w b J) (c_R_readAmount w r t (stR T ((inb P x).2)) T 1 hT okR_st.1 okR_st.2.2) (List.Perm.refl _) (List.Perm.refl _) rfl rfl 0 rfl rfl rfl rfl ?_
    refine V_ifne_b 29 dX4_readLine_24 (by decide) (fun zc2 => ?_) (fun zc2 => ?_)
    · refine V_aload_n dX4_readLine_29 1 rfl ?_
      refine V_iload_n dX4_readLine_30 3 rfl ?_
      refine V_aload_n dX4_readLine_31 0 rfl ?_
      refine V_get dX4_readLine_32 fX4_24 0 rfl rfl ?_
      refine V_partE (ws' := cR w r t ((rAm T (stR T ((inb P x).2)) 1).2) T ++ cJ w b (jAdd J (((inb P x).2).2.2.2.1) (((rAm T (stR T ((inb P x).2)) 1).2).2.2.2.2.1))) dX4_readLine_35 lX4_102 (cR w r t ((rAm T (stR T ((inb P x).2)) 1).2) T) (c_J_add w b J (((inb P x).2).2.2.2.1) (((rAm T (stR T ((inb P x).2)) 1).2).2.2.2.2.1) hJ) List.perm_append_comm List.perm_append_comm rfl rfl 0 rfl rfl rfl rfl ?_
      refine V_iconst 1 dX4_readLine_38 (by decide) ?_
      refine V_zret dX4_readLine_39 rfl rfl (nb rfl) (nb rfl) ?_
      have hr : rLn T P J x = (true, ((rAm T (stR T ((inb P x).2)) 1).2), jAdd J (((inb P x).2).2.2.2.1) (((rAm T (stR T ((inb P x).2)) 1).2).2.2.2.2.1)) := by clear hP; grind [rLn]
      exact ⟨by rw [hr] <;> rfl, by rw [hr] <;> rfl⟩
    · refine V_iconst 0 dX4_readLine_27 (by decide) ?_
      refine V_zret dX4_readLine_28 rfl rfl (nb rfl) (nb rfl) ?_
      have hr : rLn T P J x = (false, ((rAm T (stR T ((inb P x).2)) 1).2), J) := by clear hP; grind [rLn]
      exact ⟨by rw [hr] <;> rfl, by rw [hr] <;> rfl⟩
  · refine V_iconst 0 dX4_readLine_8 (by decide) ?_
    refine V_zret dX4_readLine_9 rfl rfl (nb rfl) (nb rfl) ?_
    have hr : rLn T P J x = (false, ((inb P x).2), J) := by clear hP; grind [rLn]
    exact ⟨by rw [hr] <;> rfl, by rw [hr] <;> rfl⟩

set_option maxRecDepth 100000 in
set_option maxHeartbeats 4000000 in
theorem c_R_readAccount (w : vWd) (r : Nat) (t : Nat → Nat) (P : RP) (T : TP) (ab : Nat → Nat) (aj : Nat → Nat → Nat) (B : BP) (hT : T.1 ≤ 640) (hP : okR T P) (hB : okB B) : Ct w mX4_readAccount 6 0 0 [.ref (r), .ref (ab 0)] (cR w r t P T ++ cB w ab aj B) (qE (some (.int (bi (rAc T P B).1))) (cR w r t (rAc T P B).2.1 T ++ cB w ab aj (rAc T P B).2.2)) := by
  refine Ct.of (L := [(0, .ref (r)), (1, .ref (ab 0))]) (by decide) rfl rfl ?_
  obtain ⟨hb1, hb2, hb3⟩ := id hB
  refine V_aload_n dX4_readAccount_0 1 rfl ?_
  refine V_partR dX4_readAccount_1 lX4_70 (cR w r t P T) (c_B_accounts w ab aj B ) List.perm_append_comm rfl rfl 0 rfl rfl rfl rfl ?_
  refine V_bipush 12 dX4_readAccount_4 (by decide) ?_
  refine V_icmp_lt_n B.1 12 15 dX4_readAccount_6 (by decide) (by omega) (by omega) (fun zc1 => ?_) (fun zc1 => ?_)
  · refine V_aload_n dX4_readAccount_15 0 rfl ?_
    refine V_partE (ws' := cR w r t (stR T P) T ++ cB w ab aj B) dX4_readAccount_16 lX4_42 (cB w ab aj B) (c_R_step w r t P T hT hP.1) (List.Perm.refl _) (List.Perm.refl _) rfl rfl 0 rfl rfl rfl rfl ?_
    refine V_aload_n dX4_readAccount_19 0 rfl ?_
    refine V_partR dX4_readAccount_20 lX4_73 (cB w ab aj B) (c_R_kindNamed w r t (stR T P) T hT okR_st.1 okR_st.2.1 okR_st.2.2) (List.Perm.refl _) rfl rfl 0 rfl rfl rfl rfl ?_
    refine V_istore_n dX4_readAccount_23 rfl (L' := [(0, .ref (r)), (1, .ref (ab 0)), (2, .int (kdF T (stR T P) 6 0))]) rfl ?_
    refine V_iload_n dX4_readAccount_24 2 rfl ?_
    refine V_iconst (-1) dX4_readAccount_25 (by decide) ?_
    refine V_icmp_ne 35 dX4_readAccount_26 (by decide) (fun zc2 => ?_) (fun zc2 => ?_)
    · refine V_aload_n dX4_readAccount_35 0 rfl ?_
      refine V_partE (ws' := cR w r t (stR T (stR T P)) T ++ cB w ab aj B) dX4_readAccount_36 lX4_42 (cB w ab aj B) (c_R_step w r t (stR T P) T hT okR_st.1) (List.Perm.refl _) (List.Perm.refl _) rfl rfl 0 rfl rfl rfl rfl ?_
      refine V_aload_n dX4_readAccount_39 0 rfl ?_
      refine V_iconst 0 dX4_readAccount_40 (by decide) ?_
      refine V_partE (ws' := cR w r t ((rAm T (stR T (stR T P)) 0).2) T ++ cB w ab aj B) dX4_readAccount_41 lX4_76 (cB w ab aj B) (c_R_readAmount w r t (stR T (stR T P)) T 0 hT okR_st.1 okR_st.2.2) (List.Perm.refl _) (List.Perm.refl _) rfl rfl 0 rfl rfl rfl rfl ?_
      refine V_ifne_b 49 dX4_readAccount_44 (by decide) (fun zc3 => ?_) (fun zc3 => ?_)
      · have ht5 : ((rAm T (stR T (stR T P)) 0).2).1 ≤ 5 := (okR_am okR_st).2.2
        refine V_aload_n dX4_readAccount_49 0 rfl ?_
        refine V_get dX4_readAccount_50 fX4_11 0 rfl rfl ?_
        refine V_iconst 4 dX4_readAccount_53 (by decide) ?_
        refine V_icmp_eq_n (((rAm T (stR T (stR T P)) 0).2).1) 4 63 dX4_readAccount_54 (by decide) (by omega) (by omega) (fun zc4 => ?_) (fun zc4 => ?_)
        · refine V_aload_n dX4_readAccount_63 1 rfl ?_
          refine V_iload_n dX4_readAccount_64 2 rfl ?_
          refine V_aload_n dX4_readAccount_65 0 rfl ?_
          refine V_get dX4_readAccount_66 fX4_24 0 rfl rfl ?_
          refine V_partE (ws' := cR w r t ((rAm T (stR T (stR T P)) 0).2) T ++ cB w ab aj (bAddA B (kdF T (stR T P) 6 0) (((rAm T (stR T (stR T P)) 0).2).2.2.2.2.1))) dX4_readAccount_69 lX4_79 (cR w r t ((rAm T (stR T (stR T P)) 0).2) T) (c_B_addAccount w ab aj B (kdF T (stR T P) 6 0) (((rAm T (stR T (stR T P)) 0).2).2.2.2.2.1) hB) List.perm_append_comm List.perm_append_comm rfl rfl 0 rfl rfl rfl rfl ?_
          refine V_aload_n dX4_readAccount_72 0 rfl ?_
          refine V_partE (ws' := cR w r t (stR T ((rAm T (stR T (stR T P)) 0).2)) T ++ cB w ab aj (bAddA B (kdF T (stR T P) 6 0) (((rAm T (stR T (stR T P)) 0).2).2.2.2.2.1))) dX4_readAccount_73 lX4_42 (cB w ab aj (bAddA B (kdF T (stR T P) 6 0) (((rAm T (stR T (stR T P)) 0).2).2.2.2.2.1))) (c_R_step w r t ((rAm T (stR T (stR T P)) 0).2) T hT (okR_am okR_st).1) (List.Perm.refl _) (List.Perm.refl _) rfl rfl 0 rfl rfl rfl rfl ?_
          refine V_iconst 1 dX4_readAccount_76 (by decide) ?_
          refine V_zret dX4_readAccount_77 rfl rfl (nb rfl) (nb rfl) ?_
          have hr : rAc T P B = (true, (stR T ((rAm T (stR T (stR T P)) 0).2)), bAddA B (kdF T (stR T P) 6 0) (((rAm T (stR T (stR T P)) 0).2).2.2.2.2.1)) := by clear hP; clear hB; grind [rAc, ac2]
          exact ⟨by rw [hr] <;> rfl, by rw [hr] <;> rfl⟩
        · refine V_aload_n dX4_readAccount_57 0 rfl ?_
          refine V_iconst 1 dX4_readAccount_58 (by decide) ?_
          refine V_partE (ws' := cR w r t (rRf 1 ((rAm T (stR T (stR T P)) 0).2)) T ++ cB w ab aj B) dX4_readAccount_59 lX4_66 (cB w ab aj B) (c_R_refuse w r t ((rAm T (stR T (stR T P)) 0).2) T 1) (List.Perm.refl _) (List.Perm.refl _) rfl rfl 0 rfl rfl rfl rfl ?_
          refine V_zret dX4_readAccount_62 rfl rfl (nb rfl) (nb rfl) ?_
          have hr : rAc T P B = (false, (rRf 1 ((rAm T (stR T (stR T P)) 0).2)), B) := by clear hP; clear hB; grind [rAc, ac2]
          exact ⟨by rw [hr] <;> rfl, by rw [hr] <;> rfl⟩
      · refine V_iconst 0 dX4_readAccount_47 (by decide) ?_
        refine V_zret dX4_readAccount_48 rfl rfl (nb rfl) (nb rfl) ?_
        have hr : rAc T P B = (false, ((rAm T (stR T (stR T P)) 0).2), B) := by clear hP; clear hB; grind [rAc, ac2]
        exact ⟨by rw [hr] <;> rfl, by rw [hr] <;> rfl⟩
    · refine V_aload_n dX4_readAccount_29 0 rfl ?_
      refine V_iconst 1 dX4_readAccount_30 (by decide) ?_
      refine V_partE (ws' := cR w r t (rRf 1 (stR T P)) T ++ cB w ab aj B) dX4_readAccount_31 lX4_66 (cB w ab aj B) (c_R_refuse w r t (stR T P) T 1) (List.Perm.refl _) (List.Perm.refl _) rfl rfl 0 rfl rfl rfl rfl ?_
      refine V_zret dX4_readAccount_34 rfl rfl (nb rfl) (nb rfl) ?_
      have hr : rAc T P B = (false, (rRf 1 (stR T P)), B) := by clear hP; clear hB; grind [rAc, ac2]
      exact ⟨by rw [hr] <;> rfl, by rw [hr] <;> rfl⟩
  · refine V_aload_n dX4_readAccount_9 0 rfl ?_
    refine V_iconst 3 dX4_readAccount_10 (by decide) ?_
    refine V_partE (ws' := cR w r t (rRf 3 P) T ++ cB w ab aj B) dX4_readAccount_11 lX4_66 (cB w ab aj B) (c_R_refuse w r t P T 3) (List.Perm.refl _) (List.Perm.refl _) rfl rfl 0 rfl rfl rfl rfl ?_
    refine V_zret dX4_readAccount_14 rfl rfl (nb rfl) (nb rfl) ?_
    have hr : rAc T P B = (false, (rRf 3 P), B) := by clear hP; clear hB; grind [rAc, ac2]
    exact ⟨by rw [hr] <;> rfl, by rw [hr] <;> rfl⟩
