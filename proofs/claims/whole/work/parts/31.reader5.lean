/-! 31: CashDeriver$Reader: read -/
theorem okR_ac {T : TP} {P : RP} {B : BP} (h : okR T P) : okR T (rAc T P B).2.1 := by
  have h2 : okR T (ac2 T P).2 := okR_am okR_st
  unfold rAc
  split
  · split
    · exact (okR_st : okR T (stR T P))
    · split
      · split
        · exact okR_st
        · exact h2
      · exact h2
  · exact h
theorem okB_ac {T : TP} {P : RP} {B : BP} (h : okB B) : okB (rAc T P B).2.2 := by
  unfold rAc
  split
  · next c =>
    split
    · exact h
    · split
      · split
        · show okB (bAddA B _ _)
          unfold bAddA
          rw [if_pos c]
          exact ⟨by show B.1 + 1 ≤ 12; omega, h.2.1, h.2.2⟩
        · exact h
      · exact h
  · exact h
theorem ok_lnL {T : TP} {b : Int32} : ∀ {m n : Nat} {P : RP} {J : JP}, okR T P → okJ J → okR T (lnL T b m n P J).2.1 ∧ okJ (lnL T b m n P J).2.2
  | 0, _, _, _, h1, h2 => ⟨h1, h2⟩
  | m + 1, n, P, J, h1, h2 => by
    unfold lnL
    split
    · exact ⟨h1, h2⟩
    · split
      · exact ok_lnL (okR_ln h1) (okJ_ln h2)
      · exact ⟨okR_ln h1, okJ_ln h2⟩
theorem ok_lnE {T : TP} {b : Int32} {x : Bool × RP × JP} (h : okR T x.2.1 ∧ okJ x.2.2) : okR T (lnE T b x).2.1 ∧ okJ (lnE T b x).2.2 := by
  obtain ⟨h1, h2⟩ := h
  unfold lnE
  split
  · split
    · split
      · exact ⟨okR_st, h2⟩
      · exact ⟨h1, h2⟩
    · refine ⟨?_, h2⟩
      show okR T (if _ then _ else _)
      split
      · exact (okR_inb h1 : okR T (inb x.2.1 b).2)
      · exact okR_inb h1
  · exact ⟨h1, h2⟩
theorem ok_jn1 {T : TP} {P : RP} {B : BP} : okR T (jn1 T P B).2.1 ∧ okJ (jn1 T P B).2.2 :=
  ok_lnE (ok_lnL okR_st ⟨by show 0 ≤ 6; omega, by show 0 ≤ 6; omega, by show 0 ≤ 6; omega⟩)
theorem okR_jn {T : TP} {P : RP} {B : BP} (h : okR T P) : okR T (rJn T P B).2.1 := by
  unfold rJn
  split
  · split
    · exact ok_jn1.1
    · exact okR_inb okR_st
  · exact h
theorem okB_rJn {T : TP} {P : RP} {B : BP} (h : okB B) : okB (rJn T P B).2.2 := by
  unfold rJn
  split
  · split
    · exact okB_jn h (by omega) ok_jn1.2
    · exact h
  · exact h
def acL (T : TP) : Nat → RP → BP → Bool × RP × BP
  | 0, P, B => (true, P, B)
  | m + 1, P, B => if wdB T P 6 = true then (if (rAc T P B).1 = true then acL T m (rAc T P B).2.1 (rAc T P B).2.2 else (false, (rAc T P B).2.1, (rAc T P B).2.2)) else (true, P, B)
def jnL (T : TP) : Nat → RP → BP → Bool × RP × BP
  | 0, P, B => (true, P, B)
  | m + 1, P, B => if wdB T P 7 = true then (if (rJn T P B).1 = true then jnL T m (rJn T P B).2.1 (rJn T P B).2.2 else (false, (rJn T P B).2.1, (rJn T P B).2.2)) else (true, P, B)
def rd3 (T : TP) (x : Bool × RP × BP) : Bool × RP × BP := if x.1 = true then (if x.2.1.1 = 0 ∧ T.1 ≤ 600 then (true, x.2.1, x.2.2) else (false, rRf 1 x.2.1, x.2.2)) else (false, x.2.1, x.2.2)
def rd2 (T : TP) (x : Bool × RP × BP) : Bool × RP × BP := if x.1 = true then rd3 T (jnL T 13 x.2.1 x.2.2) else (false, x.2.1, x.2.2)
def rd0 (P : RP) : RP := (P.1, P.2.1, 0, P.2.2.2.1, P.2.2.2.2.1, 0, 0)
def rdW (T : TP) (P : RP) (B : BP) : Bool × RP × BP := rd2 T (acL T 13 (stR T (rd0 P)) (0, 0, B.2.2))

set_option maxRecDepth 100000 in
set_option maxHeartbeats 4000000 in
theorem lp_R_js (w : vWd) (r : Nat) (t : Nat → Nat) (T : TP) (ab : Nat → Nat) (aj : Nat → Nat → Nat) (hT : T.1 ≤ 640) : ∀ (m : Nat) (n : Nat) (P : RP) (B : BP), (14 ≤ n + m) → (n ≤ 13) → (okR T P) → (okB B) → V w mX4_read (vc w 7 0 0 (qE (some (.int (bi (rd3 T (jnL T (13 - n) P B)).1))) (cR w r t (rd3 T (jnL T (13 - n) P B)).2.1 T ++ cB w ab aj (rd3 T (jnL T (13 - n) P B)).2.2))) 0 0 58 [(0, .ref (r)), (1, .ref (ab 0)), (2, .int (nI n))] [] (cR w r t P T ++ cB w ab aj B) := by
  intro m
  induction m with
  | zero =>
    intro n P B h1 h2 hP hB
    exact absurd h1 (by omega)
  | succ m ih =>
    intro n P B h1 h2 hP hB
    have ht5 : P.1 ≤ 5 := hP.2.2
    refine V_iload_n dX4_read_58 2 rfl ?_
    refine V_bipush 12 dX4_read_59 (by decide) ?_
    refine V_icmp_gt_n n 12 89 dX4_read_61 (by decide) (by omega) (by omega) (fun zc1 => ?_) (fun zc1 => ?_)
    · have hx : jnL T (13 - n) P B = (true, P, B) := by
        first
        | (rw [show 13 - n = 0 by omega]; rfl)
        | (rw [show 13 - n = 13 - (n + 1) + 1 by omega, jnL, if_neg (by rw [zw]; decide)])
      rw [hx]
      refine V_aload_n dX4_read_89 0 rfl ?_
      refine V_get dX4_read_90 fX4_11 0 rfl rfl ?_
      refine V_if_ne_n P.1 109 dX4_read_93 (by decide) (by omega) (fun zc2 => ?_) (fun zc2 => ?_)
      · refine V_aload_n dX4_read_109 0 rfl ?_
        refine V_iconst 1 dX4_read_110 (by decide) ?_
        refine V_partE (ws' := cR w r t (rRf 1 P) T ++ cB w ab aj B) dX4_read_111 lX4_66 (cB w ab aj B) (c_R_refuse w r t P T 1) (List.Perm.refl _) (List.Perm.refl _) rfl rfl 0 rfl rfl rfl rfl ?_
        refine V_if_eq_t 121 dX4_read_114 (by decide) (by decide) ?_
        refine V_iconst 0 dX4_read_121 (by decide) ?_
        refine V_zret dX4_read_122 rfl rfl (nb rfl) (nb rfl) ?_
        have hr : rd3 T (true, P, B) = (false, (rRf 1 P), B) := by clear ih hP hB; grind [rd3]
        exact ⟨by rw [hr] <;> rfl, by rw [hr] <;> rfl⟩
      · refine V_aload_n dX4_read_96 0 rfl ?_
        refine V_get dX4_read_97 fX4_33 0 rfl rfl ?_
        refine V_partR dX4_read_100 lX4_60 (rC r (t 0) P :: cB w ab aj B) (c_T_size w t T) List.perm_middle.symm rfl rfl 0 rfl rfl rfl rfl ?_
        refine V_sipush 600 dX4_read_103 (by decide) ?_
        refine V_icmp_le_n T.1 600 117 dX4_read_106 (by decide) (by omega) (by omega) (fun zc4 => ?_) (fun zc4 => ?_)
        · refine V_iconst 1 dX4_read_117 (by decide) ?_
          refine V_goto 122 dX4_read_118 (by decide) ?_
          refine V_zret dX4_read_122 rfl rfl (nb rfl) (nb rfl) ?_
          have hr : rd3 T (true, P, B) = (true, P, B) := by clear ih hP hB; grind [rd3]
          exact ⟨by rw [hr] <;> rfl, by rw [hr] <;> rfl⟩
        · refine V_aload_n dX4_read_109 0 rfl ?_
          refine V_iconst 1 dX4_read_110 (by decide) ?_
          refine V_partE (ws' := cR w r t (rRf 1 P) T ++ cB w ab aj B) dX4_read_111 lX4_66 (cB w ab aj B) (c_R_refuse w r t P T 1) (List.Perm.refl _) (List.Perm.refl _) rfl rfl 0 rfl rfl rfl rfl ?_
          refine V_if_eq_t 121 dX4_read_114 (by decide) (by decide) ?_
          refine V_iconst 0 dX4_read_121 (by decide) ?_
          refine V_zret dX4_read_122 rfl rfl (nb rfl) (nb rfl) ?_
          have hr : rd3 T (true, P, B) = (false, (rRf 1 P), B) := by clear ih hP hB; grind [rd3]
          exact ⟨by rw [hr] <;> rfl, by rw [hr] <;> rfl⟩
    · refine V_aload_n dX4_read_64 0 rfl ?_
      refine V_ldcS (j := 7) (tx := "journal") dX4_read_65 (by decide +kernel) ?_
      refine V_partR dX4_read_67 lX4_47 (cB w ab aj B) (c_R_isWord w r t P T 7 (by omega) hT hP.1 hP.2.1 hP.2.2) (List.Perm.refl _) rfl rfl 0 rfl rfl rfl rfl ?_
      refine V_ifeq_b 89 dX4_read_70 (by decide) (fun zc6 => ?_) (fun zc6 => ?_)
      · have zw := zc6
        have hx : jnL T (13 - n) P B = (true, P, B) := by
          first
          | (rw [show 13 - n = 0 by omega]; rfl)
          | (rw [show 13 - n = 13 - (n + 1) + 1 by omega, jnL, if_neg (by rw [zw]; decide)])
        rw [hx]
        refine V_aload_n dX4_read_89 0 rfl ?_
        refine V_get dX4_read_90 fX4_11 0 rfl rfl ?_
        refine V_if_ne_n P.1 109 dX4_read_93 (by decide) (by omega) (fun zc7 => ?_) (fun zc7 => ?_)
        · refine V_aload_n dX4_read_109 0 rfl ?_
          refine V_iconst 1 dX4_read_110 (by decide) ?_
          refine V_partE (ws' := cR w r t (rRf 1 P) T ++ cB w ab aj B) dX4_read_111 lX4_66 (cB w ab aj B) (c_R_refuse w r t P T 1) (List.Perm.refl _) (List.Perm.refl _) rfl rfl 0 rfl rfl rfl rfl ?_
          refine V_if_eq_t 121 dX4_read_114 (by decide) (by decide) ?_
          refine V_iconst 0 dX4_read_121 (by decide) ?_
          refine V_zret dX4_read_122 rfl rfl (nb rfl) (nb rfl) ?_
          have hr : rd3 T (true, P, B) = (false, (rRf 1 P), B) := by clear ih hP hB; grind [rd3]
          exact ⟨by rw [hr] <;> rfl, by rw [hr] <;> rfl⟩
        · refine V_aload_n dX4_read_96 0 rfl ?_
          refine V_get dX4_read_97 fX4_33 0 rfl rfl ?_
          refine V_partR dX4_read_100 lX4_60 (rC r (t 0) P :: cB w ab aj B) (c_T_size w t T) List.perm_middle.symm rfl rfl 0 rfl rfl rfl rfl ?_
          refine V_sipush 600 dX4_read_103 (by decide) ?_
          refine V_icmp_le_n T.1 600 117 dX4_read_106 (by decide) (by omega) (by omega) (fun zc9 => ?_) (fun zc9 => ?_)
          · refine V_iconst 1 dX4_read_117 (by decide) ?_
            refine V_goto 122 dX4_read_118 (by decide) ?_
            refine V_zret dX4_read_122 rfl rfl (nb rfl) (nb rfl) ?_
            have hr : rd3 T (true, P, B) = (true, P, B) := by clear ih hP hB; grind [rd3]
            exact ⟨by rw [hr] <;> rfl, by rw [hr] <;> rfl⟩
          · refine V_aload_n dX4_read_109 0 rfl ?_
            refine V_iconst 1 dX4_read_110 (by decide) ?_
            refine V_partE (ws' := cR w r t (rRf 1 P) T ++ cB w ab aj B) dX4_read_111 lX4_66 (cB w ab aj B) (c_R_refuse w r t P T 1) (List.Perm.refl _) (List.Perm.refl _) rfl rfl 0 rfl rfl rfl rfl ?_
            refine V_if_eq_t 121 dX4_read_114 (by decide) (by decide) ?_
            refine V_iconst 0 dX4_read_121 (by decide) ?_
            refine V_zret dX4_read_122 rfl rfl (nb rfl) (nb rfl) ?_
            have hr : rd3 T (true, P, B) = (false, (rRf 1 P), B) := by clear ih hP hB; grind [rd3]
            exact ⟨by rw [hr] <;> rfl, by rw [hr] <;> rfl⟩
      · have zw := zc6
        refine V_aload_n dX4_read_73 0 rfl ?_
        refine V_aload_n dX4_read_74 1 rfl ?_
        refine V_selfE (ws' := cR w r t ((rJn T P B).2.1) T ++ cB w ab aj ((rJn T P B).2.2)) dX4_read_75 lX4_57 (c_R_readJournal w r t P T ab aj B hT hP hB) rfl rfl 0 rfl rfl rfl rfl ?_
        refine V_ifne_b 83 dX4_read_78 (by decide) (fun zc11 => ?_) (fun zc11 => ?_)
        · have zl := zc11
          refine V_iinc (nI (n + 1)) dX4_read_83 2 rfl (nI_i1 n) rfl (L' := [(0, .ref (r)), (1, .ref (ab 0)), (2, .int (nI (n + 1)))]) rfl ?_
          refine V_goto 58 dX4_read_86 (by decide) ?_
          rw [show jnL T (13 - n) P B = jnL T (13 - (n + 1)) (rJn T P B).2.1 (rJn T P B).2.2 by rw [show 13 - n = 13 - (n + 1) + 1 by omega, jnL, if_pos zw, if_pos zl]]
          exact ih (n + 1) (rJn T P B).2.1 (rJn T P B).2.2 (by omega) (by omega) (okR_jn hP) (okB_rJn hB)
        · have zl := zc11
          refine V_iconst 0 dX4_read_81 (by decide) ?_
          refine V_zret dX4_read_82 rfl rfl (nb rfl) (nb rfl) ?_
          have hr : (rd3 T (jnL T (13 - n) P B)) = (false, ((rJn T P B).2.1), (rJn T P B).2.2) := by rw [show jnL T (13 - n) P B = (false, (rJn T P B).2.1, (rJn T P B).2.2) by rw [show 13 - n = 13 - (n + 1) + 1 by omega, jnL, if_pos zw, if_neg (by rw [zl]; decide)]]; rfl
          exact ⟨by rw [hr] <;> rfl, by rw [hr] <;> rfl⟩

set_option maxRecDepth 100000 in
set_option maxHeartbeats 4000000 in
theorem lp_R_as (w : vWd) (r : Nat) (t : Nat → Nat) (T : TP) (ab : Nat → Nat) (aj : Nat → Nat → Nat) (hT : T.1 ≤ 640) : ∀ (m : Nat) (n : Nat) (P : RP) (B : BP), (14 ≤ n + m) → (n ≤ 13) → (okR T P) → (okB B) → V w mX4_read (vc w 7 0 0 (qE (some (.int (bi (rd2 T (acL T (13 - n) P B)).1))) (cR w r t (rd2 T (acL T (13 - n) P B)).2.1 T ++ cB w ab aj (rd2 T (acL T (13 - n) P B)).2.2))) 0 0 25 [(0, .ref (r)), (1, .ref (ab 0)), (2, .int (nI n))] [] (cR w r t P T ++ cB w ab aj B) := by
  intro m
  induction m with
  | zero =>
    intro n P B h1 h2 hP hB
    exact absurd h1 (by omega)
  | succ m ih =>
    intro n P B h1 h2 hP hB
    have ht5 : P.1 ≤ 5 := hP.2.2
    refine V_iload_n dX4_read_25 2 rfl ?_
    refine V_bipush 12 dX4_read_26 (by decide) ?_
    refine V_icmp_gt_n n 12 56 dX4_read_28 (by decide) (by omega) (by omega) (fun zc1 => ?_) (fun zc1 => ?_)
    · have hx : acL T (13 - n) P B = (true, P, B) := by
        first
        | (rw [show 13 - n = 0 by omega]; rfl)
        | (rw [show 13 - n = 13 - (n + 1) + 1 by omega, acL, if_neg (by rw [zw]; decide)])
      rw [hx]
      refine V_iconst 0 dX4_read_56 (by decide) ?_
      refine V_istore_n dX4_read_57 rfl (L' := [(0, .ref (r)), (1, .ref (ab 0)), (2, .int 0)]) rfl ?_
      exact lp_R_js w r t T ab aj hT 14 0 P B (by omega) (by omega) hP hB
    · refine V_aload_n dX4_read_31 0 rfl ?_
      refine V_ldcS (j := 6) (tx := "account") dX4_read_32 (by decide +kernel) ?_
      refine V_partR dX4_read_34 lX4_47 (cB w ab aj B) (c_R_isWord w r t P T 6 (by omega) hT hP.1 hP.2.1 hP.2.2) (List.Perm.refl _) rfl rfl 0 rfl rfl rfl rfl ?_
      refine V_ifeq_b 56 dX4_read_37 (by decide) (fun zc2 => ?_) (fun zc2 => ?_)
      · have zw := zc2
        have hx : acL T (13 - n) P B = (true, P, B) := by
          first
          | (rw [show 13 - n = 0 by omega]; rfl)
          | (rw [show 13 - n = 13 - (n + 1) + 1 by omega, acL, if_neg (by rw [zw]; decide)])
        rw [hx]
        refine V_iconst 0 dX4_read_56 (by decide) ?_
        refine V_istore_n dX4_read_57 rfl (L' := [(0, .ref (r)), (1, .ref (ab 0)), (2, .int 0)]) rfl ?_
        exact lp_R_js w r t T ab aj hT 14 0 P B (by omega) (by omega) hP hB
      · have zw := zc2
        refine V_aload_n dX4_read_40 0 rfl ?_
        refine V_aload_n dX4_read_41 1 rfl ?_
        refine V_selfE (ws' := cR w r t ((rAc T P B).2.1) T ++ cB w ab aj ((rAc T P B).2.2)) dX4_read_42 lX4_51 (c_R_readAccount w r t P T ab aj B hT hP hB) rfl rfl 0 rfl rfl rfl rfl ?_
        refine V_ifne_b 50 dX4_read_45 (by decide) (fun zc3 => ?_) (fun zc3 => ?_)
        · have zl := zc3
          refine V_iinc (nI (n + 1)) dX4_read_50 2 rfl (nI_i1 n) rfl (L' := [(0, .ref (r)), (1, .ref (ab 0)), (2, .int (nI (n + 1)))]) rfl ?_
          refine V_goto 25 dX4_read_53 (by decide) ?_
          rw [show acL T (13 - n) P B = acL T (13 - (n + 1)) (rAc T P B).2.1 (rAc T P B).2.2 by rw [show 13 - n = 13 - (n + 1) + 1 by omega, acL, if_pos zw, if_pos zl]]
          exact ih (n + 1) (rAc T P B).2.1 (rAc T P B).2.2 (by omega) (by omega) (okR_ac hP) (okB_ac hB)
        · have zl := zc3
          refine V_iconst 0 dX4_read_48 (by decide) ?_
          refine V_zret dX4_read_49 rfl rfl (nb rfl) (nb rfl) ?_
          have hr : (rd2 T (acL T (13 - n) P B)) = (false, ((rAc T P B).2.1), (rAc T P B).2.2) := by rw [show acL T (13 - n) P B = (false, (rAc T P B).2.1, (rAc T P B).2.2) by rw [show 13 - n = 13 - (n + 1) + 1 by omega, acL, if_pos zw, if_neg (by rw [zl]; decide)]]; rfl
          exact ⟨by rw [hr] <;> rfl, by rw [hr] <;> rfl⟩

set_option maxRecDepth 100000 in
set_option maxHeartbeats 4000000 in
theorem c_R_read (w : vWd) (r : Nat) (t : Nat → Nat) (P : RP) (T : TP) (ab : Nat → Nat) (aj : Nat → Nat → Nat) (B : BP) (hT : T.1 ≤ 640) (hB : okB B) : Ct w mX4_read 7 0 0 [.ref (r), .ref (ab 0)] (cR w r t P T ++ cB w ab aj B) (qE (some (.int (bi (rdW T P B).1))) (cR w r t (rdW T P B).2.1 T ++ cB w ab aj (rdW T P B).2.2)) := by
  refine Ct.of (L := [(0, .ref (r)), (1, .ref (ab 0))]) (by decide) rfl rfl ?_
  refine V_aload_n dX4_read_0 1 rfl ?_
  refine V_partE (ws' := cR w r t P T ++ cB w ab aj (0, 0, B.2.2)) dX4_read_1 lX4_37 (cR w r t P T) (c_B_clear w ab aj B ) List.perm_append_comm List.perm_append_comm rfl rfl 0 rfl rfl rfl rfl ?_
  refine V_aload_n dX4_read_4 0 rfl ?_
  refine V_iconst 0 dX4_read_5 (by decide) ?_
  refine V_put dX4_read_6 pX4_27 0 rfl rfl rfl rfl (ws' := cR w r t (P.1, P.2.1, P.2.2.1, P.2.2.2.1, P.2.2.2.2.1, 0, P.2.2.2.2.2.2) T ++ cB w ab aj (0, 0, B.2.2)) rfl ?_
  refine V_aload_n dX4_read_9 0 rfl ?_
  refine V_iconst 0 dX4_read_10 (by decide) ?_
  refine V_put dX4_read_11 pX4_30 0 rfl rfl rfl rfl (ws' := cR w r t (P.1, P.2.1, P.2.2.1, P.2.2.2.1, P.2.2.2.2.1, 0, 0) T ++ cB w ab aj (0, 0, B.2.2)) rfl ?_
  refine V_aload_n dX4_read_14 0 rfl ?_
  refine V_iconst 0 dX4_read_15 (by decide) ?_
  refine V_put dX4_read_16 pX4_18 0 rfl rfl rfl rfl (ws' := cR w r t (P.1, P.2.1, 0, P.2.2.2.1, P.2.2.2.2.1, 0, 0) T ++ cB w ab aj (0, 0, B.2.2)) rfl ?_
  refine V_aload_n dX4_read_19 0 rfl ?_
  refine V_ws (ws' := cR w r t (rd0 P) T ++ cB w ab aj (0, 0, B.2.2)) rfl ?_
  refine V_partE (ws' := cR w r t (stR T (rd0 P)) T ++ cB w ab aj (0, 0, B.2.2)) dX4_read_20 lX4_42 (cB w ab aj (0, 0, B.2.2)) (c_R_step w r t (rd0 P) T hT (Nat.zero_le _)) (List.Perm.refl _) (List.Perm.refl _) rfl rfl 0 rfl rfl rfl rfl ?_
  refine V_iconst 0 dX4_read_23 (by decide) ?_
  refine V_istore_n dX4_read_24 rfl (L' := [(0, .ref (r)), (1, .ref (ab 0)), (2, .int 0)]) rfl ?_
  exact lp_R_as w r t T ab aj hT 14 0 (stR T (rd0 P)) (0, 0, B.2.2) (by omega) (by omega) okR_st ⟨by show 0 ≤ 12; omega, by show 0 ≤ 30; omega, hB.2.2⟩
