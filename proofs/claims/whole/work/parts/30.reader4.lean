/-! 30: CashDeriver$Reader: journals -/
def bJn (B : BP) (J : JP) : BP := (B.1, B.2.1 + 1, B.2.2.1, uX B.2.2.2 B.2.1 J)
theorem uX_uX {α : Type} {X : Nat → α} {k : Nat} {f g : α} : uX (uX X k f) k g = uX X k g := by
  funext j
  by_cases h : j = k
  · subst h; rw [uX_s, uX_s]
  · rw [uX_n h, uX_n h, uX_n h]
theorem bJn_at {B : BP} {J : JP} : (bJn B J).2.2.2 B.2.1 = J := uX_s
theorem bJn_up {B : BP} {J J' : JP} : ((bJn B J).1, (bJn B J).2.1, (bJn B J).2.2.1, uX (bJn B J).2.2.2 B.2.1 J') = bJn B J' := by
  show (B.1, B.2.1 + 1, B.2.2.1, uX (uX B.2.2.2 B.2.1 J) B.2.1 J') = _
  rw [uX_uX]; rfl
theorem rj_f {w : vWd} {R : va_W} {ab : Nat → Nat} {aj : Nat → Nat → Nat} {B : BP} {J : JP} (hn : B.2.1 < 30) : (R ++ cB w ab aj (bJn B J)).Perm ((R ++ cJ w (aj B.2.1) J) ++ (cB5 w ab aj (bJn B J) ++ cJx w aj (bJn B J).2.2.2 B.2.1)) := by
  have h := cB_focus (w := w) (ab := ab) (aj := aj) (B := bJn B J) hn
  rw [bJn_at] at h
  rw [List.append_assoc]
  exact h.append_left R
theorem rj_b {w : vWd} {R : va_W} {ab : Nat → Nat} {aj : Nat → Nat → Nat} {B : BP} {J J' : JP} (hn : B.2.1 < 30) : ((R ++ cJ w (aj B.2.1) J') ++ (cB5 w ab aj (bJn B J) ++ cJx w aj (bJn B J).2.2.2 B.2.1)).Perm (R ++ cB w ab aj (bJn B J')) := by
  have h := cB_back (w := w) (ab := ab) (aj := aj) (B := bJn B J) (J' := J') hn
  rw [bJn_up] at h
  rw [List.append_assoc]
  exact h.append_left R
theorem rj_t {w : vWd} {R : va_W} {ab : Nat → Nat} {aj : Nat → Nat → Nat} {B : BP} {J : JP} (hn : B.2.1 < 30) : (R ++ cB w ab aj (bJn B J)).Perm (cJ w (aj B.2.1) J ++ ((cB5 w ab aj (bJn B J) ++ cJx w aj (bJn B J).2.2.2 B.2.1) ++ R)) := by
  have h := cB_focus (w := w) (ab := ab) (aj := aj) (B := bJn B J) hn
  rw [bJn_at] at h
  rw [← List.append_assoc]
  exact List.perm_append_comm.trans (h.append_right R)
theorem okJ_add {J : JP} {x y : Int32} (h : okJ J) : okJ (jAdd J x y) := by
  obtain ⟨h1, h2, h3⟩ := h
  unfold jAdd
  split
  · exact ⟨by show J.2.1 + 1 ≤ 6; omega, h2, h3⟩
  · exact ⟨h1, h2, h3⟩
theorem okJ_ln {T : TP} {P : RP} {J : JP} {b : Int32} (h : okJ J) : okJ (rLn T P J b).2.2 := by
  unfold rLn
  split
  · split
    · exact okJ_add h
    · exact h
  · exact h
theorem okB_jn {B : BP} {J : JP} (hB : okB B) (hn : B.2.1 < 30) (hJ : okJ J) : okB (bJn B J) := by
  refine ⟨hB.1, by show B.2.1 + 1 ≤ 30; omega, fun n h => ?_⟩
  show okJ (uX B.2.2.2 B.2.1 J n)
  by_cases e : n = B.2.1
  · subst e; rw [uX_s]; exact hJ
  · rw [uX_n e]; exact hB.2.2 n h
def lnL (T : TP) (b : Int32) : Nat → Nat → RP → JP → Bool × RP × JP
  | 0, _, P, J => (true, P, J)
  | m + 1, n, P, J => if 2 ≤ n ∧ P.1 = 4 then (true, P, J) else if (rLn T P J b).1 = true then lnL T b m (n + 1) (rLn T P J b).2.1 (rLn T P J b).2.2 else (false, (rLn T P J b).2.1, (rLn T P J b).2.2)
def lnE (T : TP) (b : Int32) (x : Bool × RP × JP) : Bool × RP × JP := if x.1 = true then (if x.2.1.1 = 4 then (if jSum x.2.2 x.2.2.2.1 = 0 then (true, stR T x.2.1, x.2.2) else (false, rRf 4 x.2.1, x.2.2)) else (false, (if (inb x.2.1 b).1 = true then rRf 3 (inb x.2.1 b).2 else (inb x.2.1 b).2), x.2.2)) else (false, x.2.1, x.2.2)
def jn1 (T : TP) (P : RP) (B : BP) : Bool × RP × JP := lnE T (nI B.1) (lnL T (nI B.1) 6 0 (stR T (inb (stR T P) 20).2) (jBegin (inb (stR T P) 20).2.2.2.2.1 (B.2.2.2 B.2.1)))
def rJn (T : TP) (P : RP) (B : BP) : Bool × RP × BP := if B.2.1 < 12 then (if (inb (stR T P) 20).1 = true then ((jn1 T P B).1, (jn1 T P B).2.1, bJn B (jn1 T P B).2.2) else (false, (inb (stR T P) 20).2, B)) else (false, rRf 3 P, B)

set_option maxRecDepth 100000 in
set_option maxHeartbeats 4000000 in
theorem lp_R_lines (w : vWd) (r : Nat) (t : Nat → Nat) (T : TP) (ab : Nat → Nat) (aj : Nat → Nat → Nat) (B : BP) (hT : T.1 ≤ 640) (hB : okB B) (hn12 : B.2.1 < 12) : ∀ (m : Nat) (n : Nat) (P : RP) (J : JP), (7 ≤ n + m) → (n ≤ 6) → (okR T P) → (okJ J) → V w mX4_readJournal (vc w 6 0 0 (qE (some (.int (bi (lnE T (nI B.1) (lnL T (nI B.1) (6 - n) n P J)).1))) (cR w r t (lnE T (nI B.1) (lnL T (nI B.1) (6 - n) n P J)).2.1 T ++ cB w ab aj (bJn B (lnE T (nI B.1) (lnL T (nI B.1) (6 - n) n P J)).2.2)))) 0 0 55 [(0, .ref (r)), (1, .ref (ab 0)), (2, .ref (aj B.2.1 0)), (3, .int (nI n))] [] (cR w r t P T ++ cB w ab aj (bJn B J)) := by
  intro m
  induction m with
  | zero =>
    intro n P J h1 h2 hP hJ
    exact absurd h1 (by omega)
  | succ m ih =>
    intro n P J h1 h2 hP hJ
    have ht5 : P.1 ≤ 5 := hP.2.2
    refine V_iload_n dX4_readJournal_55 3 rfl ?_
    refine V_bipush 6 dX4_readJournal_56 (by decide) ?_
    refine V_icmp_ge_n n 6 94 dX4_readJournal_58 (by decide) (by omega) (by omega) (fun zc1 => ?_) (fun zc1 => ?_)
    · have hx : lnL T (nI B.1) (6 - n) n P J = (true, P, J) := by
        first
        | (rw [show 6 - n = 0 by omega]; rfl)
        | (rw [show 6 - n = 6 - (n + 1) + 1 by omega, lnL, if_pos (by omega)])
      rw [hx]
      refine V_aload_n dX4_readJournal_94 0 rfl ?_
      refine V_get dX4_readJournal_95 fX4_11 0 rfl rfl ?_
      refine V_iconst 4 dX4_readJournal_98 (by decide) ?_
      refine V_icmp_eq_n P.1 4 127 dX4_readJournal_99 (by decide) (by omega) (by omega) (fun zc2 => ?_) (fun zc2 => ?_)
      · refine V_aload_n dX4_readJournal_127 2 rfl ?_
        refine V_partR dX4_readJournal_128 lX4_97 ((cB5 w ab aj (bJn B J) ++ cJx w aj (bJn B J).2.2.2 B.2.1) ++ cR w r t P T) (c_J_total w (aj B.2.1) J hJ) (rj_t (by omega)) rfl rfl 0 rfl rfl rfl rfl ?_
        refine V_if_eq 140 dX4_readJournal_131 (by decide) (fun zc3 => ?_) (fun zc3 => ?_)
        · refine V_aload_n dX4_readJournal_140 0 rfl ?_
          refine V_partE (ws' := cR w r t (stR T P) T ++ cB w ab aj (bJn B J)) dX4_readJournal_141 lX4_42 (cB w ab aj (bJn B J)) (c_R_step w r t P T hT hP.1) (List.Perm.refl _) (List.Perm.refl _) rfl rfl 0 rfl rfl rfl rfl ?_
          refine V_iconst 1 dX4_readJournal_144 (by decide) ?_
          refine V_zret dX4_readJournal_145 rfl rfl (nb rfl) (nb rfl) ?_
          have hr : lnE T (nI B.1) (true, P, J) = (true, (stR T P), J) := by clear ih hB hP hJ; grind [lnE]
          exact ⟨by rw [hr] <;> rfl, by rw [hr] <;> rfl⟩
        · refine V_aload_n dX4_readJournal_134 0 rfl ?_
          refine V_iconst 4 dX4_readJournal_135 (by decide) ?_
          refine V_partE (ws' := cR w r t (rRf 4 P) T ++ cB w ab aj (bJn B J)) dX4_readJournal_136 lX4_66 (cB w ab aj (bJn B J)) (c_R_refuse w r t P T 4) (List.Perm.refl _) (List.Perm.refl _) rfl rfl 0 rfl rfl rfl rfl ?_
          refine V_zret dX4_readJournal_139 rfl rfl (nb rfl) (nb rfl) ?_
          have hr : lnE T (nI B.1) (true, P, J) = (false, (rRf 4 P), J) := by clear ih hB hP hJ; grind [lnE]
          exact ⟨by rw [hr] <;> rfl, by rw [hr] <;> rfl⟩
      · refine V_aload_n dX4_readJournal_102 0 rfl ?_
        refine V_aload_n dX4_readJournal_103 1 rfl ?_
        refine V_partR dX4_readJournal_104 lX4_70 (cR w r t P T) (c_B_accounts w ab aj (bJn B J) ) List.perm_append_comm rfl rfl 0 rfl rfl rfl rfl ?_
        refine V_partE (ws' := cR w r t ((inb P (nI (B.1))).2) T ++ cB w ab aj (bJn B J)) dX4_readJournal_107 lX4_86 (cB w ab aj (bJn B J)) (c_R_isNumberBelow w r t P T (nI (B.1)) hP.2.2) (List.Perm.refl _) (List.Perm.refl _) rfl rfl 0 rfl rfl rfl rfl ?_
        refine V_ifeq_b 125 dX4_readJournal_110 (by decide) (fun zc4 => ?_) (fun zc4 => ?_)
        · refine V_iconst 0 dX4_readJournal_125 (by decide) ?_
          refine V_zret dX4_readJournal_126 rfl rfl (nb rfl) (nb rfl) ?_
          have hr : lnE T (nI B.1) (true, P, J) = (false, ((inb P (nI (B.1))).2), J) := by clear ih hB hP hJ; grind [lnE]
          exact ⟨by rw [hr] <;> rfl, by rw [hr] <;> rfl⟩
        · refine V_aload_n dX4_readJournal_113 0 rfl ?_
          refine V_iconst 3 dX4_readJournal_114 (by decide) ?_
          refine V_partE (ws' := cR w r t (rRf 3 ((inb P (nI (B.1))).2)) T ++ cB w ab aj (bJn B J)) dX4_readJournal_115 lX4_66 (cB w ab aj (bJn B J)) (c_R_refuse w r t ((inb P (nI (B.1))).2) T 3) (List.Perm.refl _) (List.Perm.refl _) rfl rfl 0 rfl rfl rfl rfl ?_
          refine V_if_eq_t 125 dX4_readJournal_118 (by decide) (by decide) ?_
          refine V_iconst 0 dX4_readJournal_125 (by decide) ?_
          refine V_zret dX4_readJournal_126 rfl rfl (nb rfl) (nb rfl) ?_
          have hr : lnE T (nI B.1) (true, P, J) = (false, (rRf 3 ((inb P (nI (B.1))).2)), J) := by clear ih hB hP hJ; grind [lnE]
          exact ⟨by rw [hr] <;> rfl, by rw [hr] <;> rfl⟩
    · refine V_iload_n dX4_readJournal_61 3 rfl ?_
      refine V_iconst 2 dX4_readJournal_62 (by decide) ?_
      refine V_icmp_lt_n n 2 74 dX4_readJournal_63 (by decide) (by omega) (by omega) (fun zc6 => ?_) (fun zc6 => ?_)
      · refine V_aload_n dX4_readJournal_74 0 rfl ?_
        refine V_aload_n dX4_readJournal_75 2 rfl ?_
        refine V_aload_n dX4_readJournal_76 1 rfl ?_
        refine V_partR dX4_readJournal_77 lX4_70 (cR w r t P T) (c_B_accounts w ab aj (bJn B J) ) List.perm_append_comm rfl rfl 0 rfl rfl rfl rfl ?_
        refine V_partE (ws' := cR w r t ((rLn T P J (nI (B.1))).2.1) T ++ cB w ab aj (bJn B (rLn T P J (nI (B.1))).2.2)) dX4_readJournal_80 lX4_93 (cB5 w ab aj (bJn B J) ++ cJx w aj (bJn B J).2.2.2 B.2.1) (c_R_readLine w r t P T (aj B.2.1) J (nI (B.1)) hT hP hJ) (rj_f (by omega)) (rj_b (by omega)) rfl rfl 0 rfl rfl rfl rfl ?_
        refine V_ifne_b 88 dX4_readJournal_83 (by decide) (fun zc7 => ?_) (fun zc7 => ?_)
        · have zl := zc7
          refine V_iinc (nI (n + 1)) dX4_readJournal_88 3 rfl (nI_i1 n) rfl (L' := [(0, .ref (r)), (1, .ref (ab 0)), (2, .ref (aj B.2.1 0)), (3, .int (nI (n + 1)))]) rfl ?_
          refine V_goto 55 dX4_readJournal_91 (by decide) ?_
          rw [show lnL T (nI B.1) (6 - n) n P J = lnL T (nI B.1) (6 - (n + 1)) (n + 1) (rLn T P J (nI B.1)).2.1 (rLn T P J (nI B.1)).2.2 by rw [show 6 - n = 6 - (n + 1) + 1 by omega, lnL, if_neg (by omega), if_pos zl]]
          exact ih (n + 1) (rLn T P J (nI B.1)).2.1 (rLn T P J (nI B.1)).2.2 (by omega) (by omega) (okR_ln hP) (okJ_ln hJ)
        · have zl := zc7
          refine V_iconst 0 dX4_readJournal_86 (by decide) ?_
          refine V_zret dX4_readJournal_87 rfl rfl (nb rfl) (nb rfl) ?_
          have hr : (lnE T (nI B.1) (lnL T (nI B.1) (6 - n) n P J)) = (false, ((rLn T P J (nI (B.1))).2.1), (rLn T P J (nI (B.1))).2.2) := by rw [show lnL T (nI B.1) (6 - n) n P J = (false, (rLn T P J (nI B.1)).2.1, (rLn T P J (nI B.1)).2.2) by rw [show 6 - n = 6 - (n + 1) + 1 by omega, lnL, if_neg (by omega), if_neg (by rw [zl]; decide)]]; rfl
          exact ⟨by rw [hr] <;> rfl, by rw [hr] <;> rfl⟩
      · refine V_aload_n dX4_readJournal_66 0 rfl ?_
        refine V_get dX4_readJournal_67 fX4_11 0 rfl rfl ?_
        refine V_iconst 4 dX4_readJournal_70 (by decide) ?_
        refine V_icmp_eq_n P.1 4 94 dX4_readJournal_71 (by decide) (by omega) (by omega) (fun zc8 => ?_) (fun zc8 => ?_)
        · have hx : lnL T (nI B.1) (6 - n) n P J = (true, P, J) := by
            first
            | (rw [show 6 - n = 0 by omega]; rfl)
            | (rw [show 6 - n = 6 - (n + 1) + 1 by omega, lnL, if_pos (by omega)])
          rw [hx]
          refine V_aload_n dX4_readJournal_94 0 rfl ?_
          refine V_get dX4_readJournal_95 fX4_11 0 rfl rfl ?_
          refine V_iconst 4 dX4_readJournal_98 (by decide) ?_
          refine V_icmp_eq_n P.1 4 127 dX4_readJournal_99 (by decide) (by omega) (by omega) (fun zc9 => ?_) (fun zc9 => ?_)
          · refine V_aload_n dX4_readJournal_127 2 rfl ?_
            refine V_partR dX4_readJournal_128 lX4_97 ((cB5 w ab aj (bJn B J) ++ cJx w aj (bJn B J).2.2.2 B.2.1) ++ cR w r t P T) (c_J_total w (aj B.2.1) J hJ) (rj_t (by omega)) rfl rfl 0 rfl rfl rfl rfl ?_
            refine V_if_eq 140 dX4_readJournal_131 (by decide) (fun zc10 => ?_) (fun zc10 => ?_)
            · refine V_aload_n dX4_readJournal_140 0 rfl ?_
              refine V_partE (ws' := cR w r t (stR T P) T ++ cB w ab aj (bJn B J)) dX4_readJournal_141 lX4_42 (cB w ab aj (bJn B J)) (c_R_step w r t P T hT hP.1) (List.Perm.refl _) (List.Perm.refl _) rfl rfl 0 rfl rfl rfl rfl ?_
              refine V_iconst 1 dX4_readJournal_144 (by decide) ?_
              refine V_zret dX4_readJournal_145 rfl rfl (nb rfl) (nb rfl) ?_
              have hr : lnE T (nI B.1) (true, P, J) = (true, (stR T P), J) := by clear ih hB hP hJ; grind [lnE]
              exact ⟨by rw [hr] <;> rfl, by rw [hr] <;> rfl⟩
            · refine V_aload_n dX4_readJournal_134 0 rfl ?_
              refine V_iconst 4 dX4_readJournal_135 (by decide) ?_
              refine V_partE (ws' := cR w r t (rRf 4 P) T ++ cB w ab aj (bJn B J)) dX4_readJournal_136 lX4_66 (cB w ab aj (bJn B J)) (c_R_refuse w r t P T 4) (List.Perm.refl _) (List.Perm.refl _) rfl rfl 0 rfl rfl rfl rfl ?_
              refine V_zret dX4_readJournal_139 rfl rfl (nb rfl) (nb rfl) ?_
              have hr : lnE T (nI B.1) (true, P, J) = (false, (rRf 4 P), J) := by clear ih hB hP hJ; grind [lnE]
              exact ⟨by rw [hr] <;> rfl, by rw [hr] <;> rfl⟩
          · refine V_aload_n dX4_readJournal_102 0 rfl ?_
            refine V_aload_n dX4_readJournal_103 1 rfl ?_
            refine V_partR dX4_readJournal_104 lX4_70 (cR w r t P T) (c_B_accounts w ab aj (bJn B J) ) List.perm_append_comm rfl rfl 0 rfl rfl rfl rfl ?_
            refine V_partE (ws' := cR w r t ((inb P (nI (B.1))).2) T ++ cB w ab aj (bJn B J)) dX4_readJournal_107 lX4_86 (cB w ab aj (bJn B J)) (c_R_isNumberBelow w r t P T (nI (B.1)) hP.2.2) (List.Perm.refl _) (List.Perm.refl _) rfl rfl 0 rfl rfl rfl rfl ?_
            refine V_ifeq_b 125 dX4_readJournal_110 (by decide) (fun zc11 => ?_) (fun zc11 => ?_)
            · refine V_iconst 0 dX4_readJournal_125 (by decide) ?_
              refine V_zret dX4_readJournal_126 rfl rfl (nb rfl) (nb rfl) ?_
              have hr : lnE T (nI B.1) (true, P, J) = (false, ((inb P (nI (B.1))).2), J) := by clear ih hB hP hJ; grind [lnE]
              exact ⟨by rw [hr] <;> rfl, by rw [hr] <;> rfl⟩
            · refine V_aload_n dX4_readJournal_113 0 rfl ?_
              refine V_iconst 3 dX4_readJournal_114 (by decide) ?_
              refine V_partE (ws' := cR w r t (rRf 3 ((inb P (nI (B.1))).2)) T ++ cB w ab aj (bJn B J)) dX4_readJournal_115 lX4_66 (cB w ab aj (bJn B J)) (c_R_refuse w r t ((inb P (nI (B.1))).2) T 3) (List.Perm.refl _) (List.Perm.refl _) rfl rfl 0 rfl rfl rfl rfl ?_
              refine V_if_eq_t 125 dX4_readJournal_118 (by decide) (by decide) ?_
              refine V_iconst 0 dX4_readJournal_125 (by decide) ?_
              refine V_zret dX4_readJournal_126 rfl rfl (nb rfl) (nb rfl) ?_
              have hr : lnE T (nI B.1) (true, P, J) = (false, (rRf 3 ((inb P (nI (B.1))).2)), J) := by clear ih hB hP hJ; grind [lnE]
              exact ⟨by rw [hr] <;> rfl, by rw [hr] <;> rfl⟩
        · refine V_aload_n dX4_readJournal_74 0 rfl ?_
          refine V_aload_n dX4_readJournal_75 2 rfl ?_
          refine V_aload_n dX4_readJournal_76 1 rfl ?_
          refine V_partR dX4_readJournal_77 lX4_70 (cR w r t P T) (c_B_accounts w ab aj (bJn B J) ) List.perm_append_comm rfl rfl 0 rfl rfl rfl rfl ?_
          refine V_partE (ws' := cR w r t ((rLn T P J (nI (B.1))).2.1) T ++ cB w ab aj (bJn B (rLn T P J (nI (B.1))).2.2)) dX4_readJournal_80 lX4_93 (cB5 w ab aj (bJn B J) ++ cJx w aj (bJn B J).2.2.2 B.2.1) (c_R_readLine w r t P T (aj B.2.1) J (nI (B.1)) hT hP hJ) (rj_f (by omega)) (rj_b (by omega)) rfl rfl 0 rfl rfl rfl rfl ?_
          refine V_ifne_b 88 dX4_readJournal_83 (by decide) (fun zc13 => ?_) (fun zc13 => ?_)
          · have zl := zc13
            refine V_iinc (nI (n + 1)) dX4_readJournal_88 3 rfl (nI_i1 n) rfl (L' := [(0, .ref (r)), (1, .ref (ab 0)), (2, .ref (aj B.2.1 0)), (3, .int (nI (n + 1)))]) rfl ?_
            refine V_goto 55 dX4_readJournal_91 (by decide) ?_
            rw [show lnL T (nI B.1) (6 - n) n P J = lnL T (nI B.1) (6 - (n + 1)) (n + 1) (rLn T P J (nI B.1)).2.1 (rLn T P J (nI B.1)).2.2 by rw [show 6 - n = 6 - (n + 1) + 1 by omega, lnL, if_neg (by omega), if_pos zl]]
            exact ih (n + 1) (rLn T P J (nI B.1)).2.1 (rLn T P J (nI B.1)).2.2 (by omega) (by omega) (okR_ln hP) (okJ_ln hJ)
          · have zl := zc13
            refine V_iconst 0 dX4_readJournal_86 (by decide) ?_
            refine V_zret dX4_readJournal_87 rfl rfl (nb rfl) (nb rfl) ?_
            have hr : (lnE T (nI B.1) (lnL T (nI B.1) (6 - n) n P J)) = (false, ((rLn T P J (nI (B.1))).2.1), (rLn T P J (nI (B.1))).2.2) := by rw [show lnL T (nI B.1) (6 - n) n P J = (false, (rLn T P J (nI B.1)).2.1, (rLn T P J (nI B.1)).2.2) by rw [show 6 - n = 6 - (n + 1) + 1 by omega, lnL, if_neg (by omega), if_neg (by rw [zl]; decide)]]; rfl
            exact ⟨by rw [hr] <;> rfl, by rw [hr] <;> rfl⟩

set_option maxRecDepth 100000 in
set_option maxHeartbeats 4000000 in
theorem c_R_readJournal (w : vWd) (r : Nat) (t : Nat → Nat) (P : RP) (T : TP) (ab : Nat → Nat) (aj : Nat → Nat → Nat) (B : BP) (hT : T.1 ≤ 640) (hP : okR T P) (hB : okB B) : Ct w mX4_readJournal 6 0 0 [.ref (r), .ref (ab 0)] (cR w r t P T ++ cB w ab aj B) (qE (some (.int (bi (rJn T P B).1))) (cR w r t (rJn T P B).2.1 T ++ cB w ab aj (rJn T P B).2.2)) := by
  refine Ct.of (L := [(0, .ref (r)), (1, .ref (ab 0))]) (by decide) rfl rfl ?_
  obtain ⟨hb1, hb2, hb3⟩ := id hB
  refine V_aload_n dX4_readJournal_0 1 rfl ?_
  refine V_partR dX4_readJournal_1 lX4_83 (cR w r t P T) (c_B_journals w ab aj B ) List.perm_append_comm rfl rfl 0 rfl rfl rfl rfl ?_
  refine V_bipush 12 dX4_readJournal_4 (by decide) ?_
  refine V_icmp_lt_n B.2.1 12 15 dX4_readJournal_6 (by decide) (by omega) (by omega) (fun zc1 => ?_) (fun zc1 => ?_)
  · refine V_aload_n dX4_readJournal_15 0 rfl ?_
    refine V_partE (ws' := cR w r t (stR T P) T ++ cB w ab aj B) dX4_readJournal_16 lX4_42 (cB w ab aj B) (c_R_step w r t P T hT hP.1) (List.Perm.refl _) (List.Perm.refl _) rfl rfl 0 rfl rfl rfl rfl ?_
    refine V_aload_n dX4_readJournal_19 0 rfl ?_
    refine V_bipush 20 dX4_readJournal_20 (by decide) ?_
    refine V_partE (ws' := cR w r t ((inb (stR T P) 20).2) T ++ cB w ab aj B) dX4_readJournal_22 lX4_86 (cB w ab aj B) (c_R_isNumberBelow w r t (stR T P) T 20 okR_st.2.2) (List.Perm.refl _) (List.Perm.refl _) rfl rfl 0 rfl rfl rfl rfl ?_
    refine V_ifne_b 30 dX4_readJournal_25 (by decide) (fun zc2 => ?_) (fun zc2 => ?_)
    · have zb := zc2
      refine V_aload_n dX4_readJournal_30 1 rfl ?_
      refine V_aload_n dX4_readJournal_31 0 rfl ?_
      refine V_get dX4_readJournal_32 fX4_21 0 rfl rfl ?_
      refine V_partE (ws' := cR w r t ((inb (stR T P) 20).2) T ++ cB w ab aj (bOpen B (((inb (stR T P) 20).2).2.2.2.1))) dX4_readJournal_35 lX4_89 (cR w r t ((inb (stR T P) 20).2) T) (c_B_open w ab aj B (((inb (stR T P) 20).2).2.2.2.1) hB) List.perm_append_comm List.perm_append_comm rfl rfl 0 rfl rfl rfl rfl ?_
      refine V_castv (y := .ref (aj B.2.1 0)) (by rw [if_pos (by omega)]) ?_
      refine V_ws (ws' := cR w r t ((inb (stR T P) 20).2) T ++ cB w ab aj (bJn B (jBegin (((inb (stR T P) 20).2).2.2.2.1) (B.2.2.2 B.2.1)))) (by rw [bOpen, if_pos (by omega)]; rfl) ?_
      refine V_astore_n dX4_readJournal_38 rfl (L' := [(0, .ref (r)), (1, .ref (ab 0)), (2, .ref (aj B.2.1 0))]) rfl ?_
      refine V_aload_n dX4_readJournal_39 2 rfl ?_
      refine V_ifnonnull 49 dX4_readJournal_40 (by decide) ?_
      refine V_aload_n dX4_readJournal_49 0 rfl ?_
      refine V_partE (ws' := cR w r t (stR T ((inb (stR T P) 20).2)) T ++ cB w ab aj (bJn B (jBegin (((inb (stR T P) 20).2).2.2.2.1) (B.2.2.2 B.2.1)))) dX4_readJournal_50 lX4_42 (cB w ab aj (bJn B (jBegin (((inb (stR T P) 20).2).2.2.2.1) (B.2.2.2 B.2.1)))) (c_R_step w r t ((inb (stR T P) 20).2) T hT (okR_inb okR_st).1) (List.Perm.refl _) (List.Perm.refl _) rfl rfl 0 rfl rfl rfl rfl ?_
      refine V_iconst 0 dX4_readJournal_53 (by decide) ?_
      refine V_istore_n dX4_readJournal_54 rfl (L' := [(0, .ref (r)), (1, .ref (ab 0)), (2, .ref (aj B.2.1 0)), (3, .int 0)]) rfl ?_
      have hr : rJn T P B = ((jn1 T P B).1, (jn1 T P B).2.1, bJn B (jn1 T P B).2.2) := by rw [rJn, if_pos (by omega), if_pos zb]
      rw [hr]
      exact lp_R_lines w r t T ab aj B hT hB (by omega) 7 0 (stR T (inb (stR T P) 20).2) (jBegin (inb (stR T P) 20).2.2.2.2.1 (B.2.2.2 B.2.1)) (by omega) (by omega) okR_st ⟨by show 0 ≤ 6; omega, by show 0 ≤ 6; omega, by show 0 ≤ 6; omega⟩
    · refine V_iconst 0 dX4_readJournal_28 (by decide) ?_
      refine V_zret dX4_readJournal_29 rfl rfl (nb rfl) (nb rfl) ?_
      have hr : rJn T P B = (false, ((inb (stR T P) 20).2), B) := by clear hP; clear hB; grind [rJn]
      exact ⟨by rw [hr] <;> rfl, by rw [hr] <;> rfl⟩
  · refine V_aload_n dX4_readJournal_9 0 rfl ?_
    refine V_iconst 3 dX4_readJournal_10 (by decide) ?_
    refine V_partE (ws' := cR w r t (rRf 3 P) T ++ cB w ab aj B) dX4_readJournal_11 lX4_66 (cB w ab aj B) (c_R_refuse w r t P T 3) (List.Perm.refl _) (List.Perm.refl _) rfl rfl 0 rfl rfl rfl rfl ?_
    refine V_zret dX4_readJournal_14 rfl rfl (nb rfl) (nb rfl) ?_
    have hr : rJn T P B = (false, (rRf 3 P), B) := by clear hP; clear hB; grind [rJn]
    exact ⟨by rw [hr] <;> rfl, by rw [hr] <;> rfl⟩
