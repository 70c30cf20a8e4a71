/-! 41: CashDeriver: the methods that leave the book as it is -/
theorem v_deep {x y z z' : va_W} (h : z.Perm (y ++ z')) : (x ++ z).Perm (y ++ (x ++ z')) := (List.Perm.append_left x h).trans (v_pull x y z')
theorem v_two {z e y r v : va_W} (h1 : z.Perm (e ++ y)) (h2 : y.Perm (r ++ v)) : z.Perm ((r ++ e) ++ v) :=
  h1.trans ((List.Perm.append_left e h2).trans ((v_pull e r v).trans (List.Perm.of_eq (List.append_assoc r e v).symm)))
theorem v_last {x y : va_W} : (x ++ y).Perm (y ++ x) := List.perm_append_comm
theorem v_cd (d : Nat × va_E) {y z z' : va_W} (h : z.Perm (y ++ z')) : (d :: z).Perm (y ++ d :: z') := (List.Perm.cons d h).trans List.perm_middle.symm
theorem v_q0 (d : Nat × va_E) (y z : va_W) : (d :: (y ++ z)).Perm (y ++ d :: z) := v_cd d (List.Perm.refl _)
theorem v_q1 (d : Nat × va_E) (p y z : va_W) : (d :: (p ++ (y ++ z))).Perm (y ++ d :: (p ++ z)) := v_cd d (v_pull p y z)
theorem v_q3 (d : Nat × va_E) (p q r y z : va_W) : (d :: (p ++ (q ++ (r ++ (y ++ z))))).Perm (y ++ d :: (p ++ (q ++ (r ++ z)))) := v_cd d (v_deep (v_deep (v_pull r y z)))
theorem v_q4 (d : Nat × va_E) (p q r s y z : va_W) : (d :: (p ++ (q ++ (r ++ (s ++ (y ++ z)))))).Perm (y ++ d :: (p ++ (q ++ (r ++ (s ++ z))))) := v_cd d (v_deep (v_deep (v_deep (v_pull s y z))))
theorem v_q5 (d : Nat × va_E) (p q r s t y z : va_W) : (d :: (p ++ (q ++ (r ++ (s ++ (t ++ (y ++ z))))))).Perm (y ++ d :: (p ++ (q ++ (r ++ (s ++ (t ++ z)))))) := v_cd d (v_deep (v_deep (v_deep (v_deep (v_pull t y z)))))
theorem v_q6 (d : Nat × va_E) (p q r s t y z : va_W) : (d :: (p ++ (q ++ (r ++ (s ++ (t ++ (y ++ z))))))).Perm (z ++ d :: (p ++ (q ++ (r ++ (s ++ (t ++ y)))))) := v_cd d (v_deep (v_deep (v_deep (v_deep (v_deep v_last)))))
theorem v_qS (d : Nat × va_E) (x p q y z : va_W) : (x ++ d :: (p ++ (q ++ (y ++ z)))).Perm ((d :: y) ++ (x ++ (p ++ (q ++ z)))) :=
  (v_deep (y := d :: y) (List.Perm.cons d (v_deep (v_pull q y z))))
section DPm
variable {w : vWd} {D : DW} {b c : DB} {T : TP} {P : RP} {G : GP} {Q : SP} {A : AP} {B E : BP} {n : Nat} {J' : JP}
abbrev xT (w : vWd) (D : DW) (T : TP) := cT w D.2.1 T
abbrev xR (D : DW) (P : RP) : va_W := [rC D.2.2.1 (D.2.1 0) P]
abbrev xP (w : vWd) (D : DW) (G : GP) := cP w D.2.2.2.1 G.1 G.2.1 G.2.2
abbrev xQ (w : vWd) (D : DW) (Q : SP) := cQ w D.2.2.2.2.1 D.2.2.2.2.2.1 Q
abbrev xA (w : vWd) (D : DW) (A : AP) := cA w D.2.2.2.2.2.2 A
abbrev xB (w : vWd) (b : DB) (B : BP) := cB w b.1 b.2 B
theorem D_T : (cD w D b c T P G Q A B E).Perm (xT w D T ++ (dO D b c :: (xR D P ++ (xP w D G ++ (xQ w D Q ++ (xA w D A ++ (xB w b B ++ xB w c E))))))) := v_q0 (dO D b c) (xT w D T) _
theorem D_A : (cD w D b c T P G Q A B E).Perm (xA w D A ++ (dO D b c :: (xT w D T ++ (xR D P ++ (xP w D G ++ (xQ w D Q ++ (xB w b B ++ xB w c E))))))) := v_q4 (dO D b c) (xT w D T) (xR D P) (xP w D G) (xQ w D Q) (xA w D A) _
theorem D_B : (cD w D b c T P G Q A B E).Perm (xB w b B ++ (dO D b c :: (xT w D T ++ (xR D P ++ (xP w D G ++ (xQ w D Q ++ (xA w D A ++ xB w c E))))))) := v_q5 (dO D b c) (xT w D T) (xR D P) (xP w D G) (xQ w D Q) (xA w D A) (xB w b B) (xB w c E)
theorem D_E : (cD w D b c T P G Q A B E).Perm (xB w c E ++ (dO D b c :: (xT w D T ++ (xR D P ++ (xP w D G ++ (xQ w D Q ++ (xA w D A ++ xB w b B))))))) := v_q6 (dO D b c) (xT w D T) (xR D P) (xP w D G) (xQ w D Q) (xA w D A) (xB w b B) (xB w c E)
theorem D_RT {Z : va_W} : (dO D b c :: (xT w D T ++ (xR D P ++ Z))).Perm (cR w D.2.2.1 D.2.1 P T ++ (dO D b c :: Z)) := (v_q1 (dO D b c) (xT w D T) (xR D P) Z).trans (List.Perm.append_left (xR D P) (v_q0 (dO D b c) (xT w D T) Z))
theorem D_R : (cD w D b c T P G Q A B E).Perm (cR w D.2.2.1 D.2.1 P T ++ (dO D b c :: (xP w D G ++ (xQ w D Q ++ (xA w D A ++ (xB w b B ++ xB w c E)))))) := D_RT
theorem D_RE : (cD w D b c T P G Q A B E).Perm ((cR w D.2.2.1 D.2.1 P T ++ xB w c E) ++ (dO D b c :: (xP w D G ++ (xQ w D Q ++ (xA w D A ++ xB w b B))))) := v_two D_E D_RT
theorem D_QB : (cD w D b c T P G Q A B E).Perm ((xQ w D Q ++ xB w b B) ++ (dO D b c :: (xT w D T ++ (xR D P ++ (xP w D G ++ (xA w D A ++ xB w c E)))))) := v_two D_B (v_q3 (dO D b c) (xT w D T) (xR D P) (xP w D G) (xQ w D Q) _)
def setJ (B : BP) (n : Nat) (J : JP) : BP := (B.1, B.2.1, B.2.2.1, uX B.2.2.2 n J)
def jTog (J : JP) : JP := (J.1, J.2.1, J.2.2.1, J.2.2.2.1, !J.2.2.2.2.1, J.2.2.2.2.2)
abbrev xY (w : vWd) (D : DW) (b c : DB) (T : TP) (P : RP) (G : GP) (Q : SP) (A : AP) (E : BP) : va_W := dO D b c :: (xT w D T ++ (xR D P ++ (xP w D G ++ (xQ w D Q ++ (xA w D A ++ xB w c E)))))
theorem D_J (hn : n < 30) : (cD w D b c T P G Q A B E).Perm (cJ w (b.2 n) (B.2.2.2 n) ++ ((cB5 w b.1 b.2 B ++ cJx w b.2 B.2.2.2 n) ++ xY w D b c T P G Q A E)) :=
  D_B.trans ((List.Perm.append_right _ (cB_focus hn)).trans (List.Perm.of_eq (List.append_assoc _ _ _)))
theorem D_Jb (hn : n < 30) : (cJ w (b.2 n) J' ++ ((cB5 w b.1 b.2 B ++ cJx w b.2 B.2.2.2 n) ++ xY w D b c T P G Q A E)).Perm (cD w D b c T P G Q A (setJ B n J') E) :=
  (List.Perm.of_eq (List.append_assoc _ _ _).symm).trans ((List.Perm.append_right _ (cB_back hn)).trans D_B.symm)
/-- the object, the parter and a journal -/
theorem D_SY {Z : va_W} : (Z ++ xY w D b c T P G Q A E).Perm ((dO D b c :: xP w D G) ++ (Z ++ (xT w D T ++ (xR D P ++ (xQ w D Q ++ (xA w D A ++ xB w c E)))))) := v_qS (dO D b c) Z (xT w D T) (xR D P) (xP w D G) _
theorem D_S (hn : n < 30) : (cD w D b c T P G Q A B E).Perm (((dO D b c :: xP w D G) ++ cJ w (b.2 n) (B.2.2.2 n)) ++ ((cB5 w b.1 b.2 B ++ cJx w b.2 B.2.2.2 n) ++ (xT w D T ++ (xR D P ++ (xQ w D Q ++ (xA w D A ++ xB w c E)))))) := v_two (D_J hn) D_SY
theorem D_Sb {G' : GP} (hn : n < 30) : (((dO D b c :: xP w D G') ++ cJ w (b.2 n) J') ++ ((cB5 w b.1 b.2 B ++ cJx w b.2 B.2.2.2 n) ++ (xT w D T ++ (xR D P ++ (xQ w D Q ++ (xA w D A ++ xB w c E)))))).Perm (cD w D b c T P G' Q A (setJ B n J') E) :=
  (v_two (e := cJ w (b.2 n) J') (y := (cB5 w b.1 b.2 B ++ cJx w b.2 B.2.2.2 n) ++ xY w D b c T P G' Q A E) (List.Perm.refl _) D_SY).symm.trans (D_Jb hn)
end DPm
theorem bRef_cs {B : BP} (hB : okB B) (aj : Nat → Nat → Nat) (x : Int32) : (inR B.2.1 x = false ∧ bRef B aj x = .null) ∨ ∃ n, n < B.2.1 ∧ x = nI n ∧ inR B.2.1 x = true ∧ bRef B aj x = .ref (aj n 0) := by
  by_cases h : inR B.2.1 x = true
  · obtain ⟨j, hj, hl⟩ := inL_true hB.2.1 h
    refine Or.inr ⟨j, hl, hj, h, ?_⟩
    have := hB.2.1
    rw [bRef, if_pos h, hj, nI_clamp (by omega)]
  · have h' : inR B.2.1 x = false := by cases e : inR B.2.1 x <;> simp_all
    exact Or.inl ⟨h', by rw [bRef, h']; rfl⟩
theorem v_out1_3 {x : Int32} (h1 : ¬ x = 1) (h2 : ¬ x = 2) (h3 : ¬ x = 3) : x.toInt < 1 ∨ 3 < x.toInt := by
  by_cases a : x.toInt < 1
  · exact Or.inl a
  · by_cases b : 3 < x.toInt
    · exact Or.inr b
    · exfalso
      have e : x.toInt = 1 ∨ x.toInt = 2 ∨ x.toInt = 3 := by omega
      rcases e with e | e | e
      · exact h1 (Int32.toInt_inj.mp e)
      · exact h2 (Int32.toInt_inj.mp e)
      · exact h3 (Int32.toInt_inj.mp e)
theorem v_out3 {x : Int32} (h0 : ¬ x = 0) (h1 : ¬ x = 1) (h2 : ¬ x = 2) (h3 : ¬ x = 3) : x.toInt < 0 ∨ 3 < x.toInt := by
  by_cases a : x.toInt < 0
  · exact Or.inl a
  · by_cases b : 3 < x.toInt
    · exact Or.inr b
    · exfalso
      have e : x.toInt = 0 ∨ x.toInt = 1 ∨ x.toInt = 2 ∨ x.toInt = 3 := by omega
      rcases e with e | e | e | e
      · exact h0 (Int32.toInt_inj.mp e)
      · exact h1 (Int32.toInt_inj.mp e)
      · exact h2 (Int32.toInt_inj.mp e)
      · exact h3 (Int32.toInt_inj.mp e)
theorem v_out1_2 {x : Int32} (h1 : ¬ x = 1) (h2 : ¬ x = 2) : x.toInt < 1 ∨ 2 < x.toInt := by
  by_cases a : x.toInt < 1
  · exact Or.inl a
  · by_cases b : 2 < x.toInt
    · exact Or.inr b
    · exfalso
      have e : x.toInt = 1 ∨ x.toInt = 2 := by omega
      rcases e with e | e
      · exact h1 (Int32.toInt_inj.mp e)
      · exact h2 (Int32.toInt_inj.mp e)
/-! the figures -/
def dCl (s : Int32) : Bool := decide (0 ≤ s) && decide (s < 4)
def dPe (s : Int32) : Bool := decide (0 ≤ s) && decide (s < 20)
def dPs (f t : Int32) : Bool := dPe f && dPe t && decide (f ≤ t)
def dTo (B : BP) : Int32 := isum (fun k => bi (bIsT B (nI k))) B.1
def dSt (B : BP) : Int32 := isum (fun k => bi (B.2.2.2 k).2.2.2.2.1) B.2.1
def dNk (B : BP) (kd f t : Int32) : Int32 := isum (fun n => if bCnt B n f t then isum (fun k => if bKind B ((B.2.2.2 n).2.2.2.2.2 0 k) = kd then (B.2.2.2 n).2.2.2.2.2 1 k else 0) ((B.2.2.2 n).2.1) else 0) B.2.1
def dCm (B : BP) (so : Int32) (ci : Bool) (f t : Int32) : Int32 := isum (fun n => if bCnt B n f t then isum (fun k => if decide (bKd B n k = 0) = ci ∧ bSort B n k = so then bMv B n k else 0) ((B.2.2.2 n).2.2.2.1) else 0) B.2.1
def dMk (B : BP) (so f t : Int32) : Int32 := iorf (fun n => if bCnt B n f t then iorf (fun k => if bSort B n k = so then (1 : Int32) <<< (nI n &&& 31) else 0) ((B.2.2.2 n).2.2.2.1) else 0) B.2.1
def dDl (B : BP) (ki ot f t : Int32) : Int32 := isum (fun n => if bCnt B n f t then isum (fun k => if imin (bKc B n k) (bKd B n k) = ki ∧ imax (bKc B n k) (bKd B n k) = ot then bMv B n k else 0) ((B.2.2.2 n).2.2.2.1) else 0) B.2.1
def dAp (B : BP) (f t : Int32) : Int32 := isum (fun n => if bCnt B n f t then isum (fun k => apC (bKc B n k) (bKd B n k) (bMv B n k)) ((B.2.2.2 n).2.2.2.1) else 0) B.2.1
def dFee (T : TP) (x y z u v : Int32) : TP := if 620 < T.1 then T else tApp (tApp (tApp (tApp (tApp T x) y) z) u) v
def dNow (T : TP) (A : AP) (B : BP) (x : Int32) : Int32 := if x = 0 then nI B.1 else if x = 1 then nI B.2.1 else if x = 2 then dSt B else if x = 3 then dTo B else if x = 4 then nI A.1 else if x = 5 then nI T.1 else -1
def dPie (B : BP) (j k x : Int32) : Int32 := if inR B.2.1 j = true ∧ inN (B.2.2.2 j.toNatClampNeg).2.2.2.1 k = true then (if x = 0 then jCre (B.2.2.2 j.toNatClampNeg) k else if x = 1 then jDeb (B.2.2.2 j.toNatClampNeg) k else if x = 2 then jMov (B.2.2.2 j.toNatClampNeg) k else if x = 3 then bSort B j.toNatClampNeg k.toNatClampNeg else -1) else -1
def dDir (B : BP) (so f t x : Int32) : Int32 := if dCl so = true ∧ dPs f t = true ∧ 0 ≤ x ∧ x ≤ 2 then (if x = 1 then dCm B so false f t else if x = 0 then dCm B so true f t - 0 else dCm B so true f t - dCm B so false f t) else -100000000
def dInd (B : BP) (f t x : Int32) : Int32 := if dPs f t = true ∧ 0 ≤ x ∧ x ≤ 3 then (if x = 1 then -dNk B 2 f t else if x = 2 then -dNk B 1 f t else if x = 3 then dAp B f t else -dNk B 2 f t + -dNk B 1 f t + dAp B f t) else -100000000
def dCha (B : BP) (f t : Int32) : Int32 := if dPs f t = true then dNk B 0 f t else -100000000
def dMak (B : BP) (so f t : Int32) : Int32 := if dCl so = true ∧ dPs f t = true then dMk B so f t else -1
def dDea (B : BP) (k u f t : Int32) : Int32 := if 0 < k ∧ k ≤ u ∧ u < 6 ∧ dPs f t = true then dDl B k u f t else -1
def dBal (B : BP) (x p : Int32) : Int32 := if inA B.1 x = true ∧ dPe p = true then bBal B x p else -100000000

set_option maxRecDepth 100000 in
set_option maxHeartbeats 4000000 in
theorem c_D_isClass (w : vWd) (x : Int32) : Ct w mX7_isClass 0 0 0 [.int x] ([]) (qE (some (.int (bi (dCl x)))) []) := by
  refine Ct.of (L := [(0, .int x)]) (by decide) rfl rfl ?_
  refine V_iload_n dX7_isClass_0 0 rfl ?_
  refine V_if_lt 13 dX7_isClass_1 (by decide) (fun zc1 => ?_) (fun zc1 => ?_)
  · refine V_iconst 0 dX7_isClass_13 (by decide) ?_
    exact V_zret dX7_isClass_14 rfl rfl (nb rfl) (nb rfl) ⟨by show some (Value.int (0)) = _; refine congrArg (fun z => some (Value.int z)) ?_; grind [bi, dCl], rfl⟩
  · refine V_iload_n dX7_isClass_4 0 rfl ?_
    refine V_iconst 4 dX7_isClass_5 (by decide) ?_
    refine V_icmp_ge 13 dX7_isClass_6 (by decide) (fun zc2 => ?_) (fun zc2 => ?_)
    · refine V_iconst 0 dX7_isClass_13 (by decide) ?_
      exact V_zret dX7_isClass_14 rfl rfl (nb rfl) (nb rfl) ⟨by show some (Value.int (0)) = _; refine congrArg (fun z => some (Value.int z)) ?_; grind [bi, dCl], rfl⟩
    · refine V_iconst 1 dX7_isClass_9 (by decide) ?_
      refine V_goto 14 dX7_isClass_10 (by decide) ?_
      exact V_zret dX7_isClass_14 rfl rfl (nb rfl) (nb rfl) ⟨by show some (Value.int (1)) = _; refine congrArg (fun z => some (Value.int z)) ?_; grind [bi, dCl], rfl⟩

set_option maxRecDepth 100000 in
set_option maxHeartbeats 4000000 in
theorem c_D_isPeriod (w : vWd) (x : Int32) : Ct w mX7_isPeriod 0 0 0 [.int x] ([]) (qE (some (.int (bi (dPe x)))) []) := by
  refine Ct.of (L := [(0, .int x)]) (by decide) rfl rfl ?_
  refine V_iload_n dX7_isPeriod_0 0 rfl ?_
  refine V_if_lt 14 dX7_isPeriod_1 (by decide) (fun zc1 => ?_) (fun zc1 => ?_)
  · refine V_iconst 0 dX7_isPeriod_14 (by decide) ?_
    exact V_zret dX7_isPeriod_15 rfl rfl (nb rfl) (nb rfl) ⟨by show some (Value.int (0)) = _; refine congrArg (fun z => some (Value.int z)) ?_; grind [bi, dPe], rfl⟩
  · refine V_iload_n dX7_isPeriod_4 0 rfl ?_
    refine V_bipush 20 dX7_isPeriod_5 (by decide) ?_
    refine V_icmp_ge 14 dX7_isPeriod_7 (by decide) (fun zc2 => ?_) (fun zc2 => ?_)
    · refine V_iconst 0 dX7_isPeriod_14 (by decide) ?_
      exact V_zret dX7_isPeriod_15 rfl rfl (nb rfl) (nb rfl) ⟨by show some (Value.int (0)) = _; refine congrArg (fun z => some (Value.int z)) ?_; grind [bi, dPe], rfl⟩
    · refine V_iconst 1 dX7_isPeriod_10 (by decide) ?_
      refine V_goto 15 dX7_isPeriod_11 (by decide) ?_
      exact V_zret dX7_isPeriod_15 rfl rfl (nb rfl) (nb rfl) ⟨by show some (Value.int (1)) = _; refine congrArg (fun z => some (Value.int z)) ?_; grind [bi, dPe], rfl⟩

set_option maxRecDepth 100000 in
set_option maxHeartbeats 4000000 in
theorem c_D_arePeriods (w : vWd) (x : Int32) (y : Int32) : Ct w mX7_arePeriods 1 0 0 [.int x, .int y] ([]) (qE (some (.int (bi (dPs x y)))) []) := by
  refine Ct.of (L := [(0, .int x), (1, .int y)]) (by decide) rfl rfl ?_
  refine V_iload_n dX7_arePeriods_0 0 rfl ?_
  refine V_purS dX7_arePeriods_1 lX7_207 (c_D_isPeriod w x) rfl rfl rfl ?_
  refine V_ifeq_b 23 dX7_arePeriods_4 (by decide) (fun zc1 => ?_) (fun zc1 => ?_)
  · refine V_iconst 0 dX7_arePeriods_23 (by decide) ?_
    exact V_zret dX7_arePeriods_24 rfl rfl (nb rfl) (nb rfl) ⟨by show some (Value.int (0)) = _; refine congrArg (fun z => some (Value.int z)) ?_; grind [bi, dPs], rfl⟩
  · refine V_iload_n dX7_arePeriods_7 1 rfl ?_
    refine V_purS dX7_arePeriods_8 lX7_207 (c_D_isPeriod w y) rfl rfl rfl ?_
    refine V_ifeq_b 23 dX7_arePeriods_11 (by decide) (fun zc2 => ?_) (fun zc2 => ?_)
    · refine V_iconst 0 dX7_arePeriods_23 (by decide) ?_
      exact V_zret dX7_arePeriods_24 rfl rfl (nb rfl) (nb rfl) ⟨by show some (Value.int (0)) = _; refine congrArg (fun z => some (Value.int z)) ?_; grind [bi, dPs], rfl⟩
    · refine V_iload_n dX7_arePeriods_14 0 rfl ?_
      refine V_iload_n dX7_arePeriods_15 1 rfl ?_
      refine V_icmp_gt 23 dX7_arePeriods_16 (by decide) (fun zc3 => ?_) (fun zc3 => ?_)
      · refine V_iconst 0 dX7_arePeriods_23 (by decide) ?_
        exact V_zret dX7_arePeriods_24 rfl rfl (nb rfl) (nb rfl) ⟨by show some (Value.int (0)) = _; refine congrArg (fun z => some (Value.int z)) ?_; grind [bi, dPs], rfl⟩
      · refine V_iconst 1 dX7_arePeriods_19 (by decide) ?_
        refine V_goto 24 dX7_arePeriods_20 (by decide) ?_
        exact V_zret dX7_arePeriods_24 rfl rfl (nb rfl) (nb rfl) ⟨by show some (Value.int (1)) = _; refine congrArg (fun z => some (Value.int z)) ?_; grind [bi, dPs], rfl⟩

set_option maxRecDepth 100000 in
set_option maxHeartbeats 4000000 in
theorem c_D_feed (w : vWd) (D : DW) (b c : DB) (T : TP) (P : RP) (G : GP) (Q : SP) (A : AP) (B E : BP) (x : Int32) (y : Int32) (z : Int32) (u : Int32) (v : Int32) (hT : T.1 ≤ 640) : Ct w mX7_feed 1 0 0 [.ref (D.1), .int x, .int y, .int z, .int u, .int v] (cD w D b c T P G Q A B E) (qE (some (.int (if 620 < T.1 then -1 else nI (T.1 + 20)))) (cD w D b c (dFee T x y z u v) P G Q A B E)) := by
  refine Ct.of (L := [(0, .ref (D.1)), (1, .int x), (2, .int y), (3, .int z), (4, .int u), (5, .int v)]) (by decide) rfl rfl ?_
  refine V_aload_n dX7_feed_0 0 rfl ?_
  refine V_get dX7_feed_1 fX7_12 0 rfl rfl ?_
  refine V_partR dX7_feed_4 lX7_56 _ (c_T_room w D.2.1 T (by omega)) D_T rfl rfl 0 rfl rfl rfl rfl ?_
  refine V_bipush 20 dX7_feed_7 (by decide) ?_
  refine V_icmp_ge_n (640 - T.1) 20 14 dX7_feed_9 (by decide) (by omega) (by omega) (fun zc1 => ?_) (fun zc1 => ?_)
  · refine V_aload_n dX7_feed_14 0 rfl ?_
    refine V_get dX7_feed_15 fX7_12 0 rfl rfl ?_
    refine V_iload_n dX7_feed_18 1 rfl ?_
    refine V_partE (ws' := cD w D b c (tApp T x) P G Q A B E) dX7_feed_19 lX7_60 _ (c_T_append w D.2.1 T x (by first | omega | (simp only [tApp]; omega))) D_T (D_T).symm rfl rfl 0 rfl rfl rfl rfl ?_
    refine V_aload_n dX7_feed_22 0 rfl ?_
    refine V_get dX7_feed_23 fX7_12 0 rfl rfl ?_
    refine V_iload_n dX7_feed_26 2 rfl ?_
    refine V_partE (ws' := cD w D b c (tApp (tApp T x) y) P G Q A B E) dX7_feed_27 lX7_60 _ (c_T_append w D.2.1 (tApp T x) y (by first | omega | (simp only [tApp]; omega))) D_T (D_T).symm rfl rfl 0 rfl rfl rfl rfl ?_
    refine V_aload_n dX7_feed_30 0 rfl ?_
    refine V_get dX7_feed_31 fX7_12 0 rfl rfl ?_
    refine V_iload_n dX7_feed_34 3 rfl ?_
    refine V_partE (ws' := cD w D b c (tApp (tApp (tApp T x) y) z) P G Q A B E) dX7_feed_35 lX7_60 _ (c_T_append w D.2.1 (tApp (tApp T x) y) z (by first | omega | (simp only [tApp]; omega))) D_T (D_T).symm rfl rfl 0 rfl rfl rfl rfl ?_
    refine V_aload_n dX7_feed_38 0 rfl ?_
    refine V_get dX7_feed_39 fX7_12 0 rfl rfl ?_
    refine V_iload dX7_feed_42 4 rfl ?_
    refine V_partE (ws' := cD w D b c (tApp (tApp (tApp (tApp T x) y) z) u) P G Q A B E) dX7_feed_44 lX7_60 _ (c_T_append w D.2.1 (tApp (tApp (tApp T x) y) z) u (by first | omega | (simp only [tApp]; omega))) D_T (D_T).symm rfl rfl 0 rfl rfl rfl rfl ?_
    refine V_aload_n dX7_feed_47 0 rfl ?_
    refine V_get dX7_feed_48 fX7_12 0 rfl rfl ?_
    refine V_iload dX7_feed_51 5 rfl ?_
    refine V_partE (ws' := cD w D b c (tApp (tApp (tApp (tApp (tApp T x) y) z) u) v) P G Q A B E) dX7_feed_53 lX7_60 _ (c_T_append w D.2.1 (tApp (tApp (tApp (tApp T x) y) z) u) v (by first | omega | (simp only [tApp]; omega))) D_T (D_T).symm rfl rfl 0 rfl rfl rfl rfl ?_
    refine V_aload_n dX7_feed_56 0 rfl ?_
    refine V_get dX7_feed_57 fX7_12 0 rfl rfl ?_
    refine V_partR dX7_feed_60 lX7_64 _ (c_T_size w D.2.1 (tApp (tApp (tApp (tApp (tApp T x) y) z) u) v)) D_T rfl rfl 0 rfl rfl rfl rfl ?_
    exact V_iret dX7_feed_63 rfl (nb rfl) (nb rfl) ⟨by rw [if_neg (by omega)]; rfl, by rw [dFee, if_neg (by omega)]⟩
  · refine V_iconst (-1) dX7_feed_12 (by decide) ?_
    exact V_iret dX7_feed_13 rfl (nb rfl) (nb rfl) ⟨by rw [if_pos (by omega)], by rw [dFee, if_pos (by omega)]⟩

set_option maxRecDepth 100000 in
set_option maxHeartbeats 4000000 in
theorem c_D_end (w : vWd) (D : DW) (b c : DB) (T : TP) (P : RP) (G : GP) (Q : SP) (A : AP) (B E : BP) (x : Int32) (hT : T.1 ≤ 640) : Ct w mX7_end 1 0 0 [.ref (D.1), .int x] (cD w D b c T P G Q A B E) (qE (some (.int (bi (tIn T x)))) (cD w D b c (if tIn T x then (x.toNatClampNeg, T.2) else T) P G Q A B E)) := by
  refine Ct.of (L := [(0, .ref (D.1)), (1, .int x)]) (by decide) rfl rfl ?_
  refine V_aload_n dX7_end_0 0 rfl ?_
  refine V_get dX7_end_1 fX7_12 0 rfl rfl ?_
  refine V_iload_n dX7_end_4 1 rfl ?_
  refine V_partE (ws' := cD w D b c (if tIn T x then ((x : Int32).toNatClampNeg, T.2) else T) P G Q A B E) dX7_end_5 lX7_67 _ (c_T_cut w D.2.1 T x hT) D_T (D_T).symm rfl rfl 0 rfl rfl rfl rfl ?_
  exact V_bret dX7_end_8 rfl (nb rfl) (nb rfl) ⟨rfl, rfl⟩

set_option maxRecDepth 100000 in
set_option maxHeartbeats 4000000 in
theorem c_D_fault (w : vWd) (D : DW) (b c : DB) (T : TP) (P : RP) (G : GP) (Q : SP) (A : AP) (B E : BP) : Ct w mX7_fault 1 0 0 [.ref (D.1)] (cD w D b c T P G Q A B E) (qE (some (.int (nI P.2.2.2.2.2.1))) (cD w D b c T P G Q A B E)) := by
  refine Ct.of (L := [(0, .ref (D.1))]) (by decide) rfl rfl ?_
  refine V_aload_n dX7_fault_0 0 rfl ?_
  refine V_get dX7_fault_1 fX7_21 0 rfl rfl ?_
  refine V_partR dX7_fault_4 lX7_95 _ (c_R_faultKind w D.2.2.1 D.2.1 P T) D_R rfl rfl 0 rfl rfl rfl rfl ?_
  exact V_iret dX7_fault_7 rfl (nb rfl) (nb rfl) ⟨rfl, rfl⟩

set_option maxRecDepth 100000 in
set_option maxHeartbeats 4000000 in
theorem c_D_now (w : vWd) (D : DW) (b c : DB) (T : TP) (P : RP) (G : GP) (Q : SP) (A : AP) (B E : BP) (x : Int32) (hB : okB B) : Ct w mX7_now 4 0 0 [.ref (D.1), .int x] (cD w D b c T P G Q A B E) (qE (some (.int (dNow T A B x))) (cD w D b c T P G Q A B E)) := by
  refine Ct.of (L := [(0, .ref (D.1)), (1, .int x)]) (by decide) rfl rfl ?_
  refine V_iload_n dX7_now_0 1 rfl ?_
  by_cases zc1 : x = 0
  · refine V_tabIn 40 dX7_now_1 (by rw [zc1]; decide) (by rw [zc1]; decide) (by rw [zc1]; rfl) (by decide) ?_
    refine V_aload_n dX7_now_40 0 rfl ?_
    refine V_get dX7_now_41 fX7_49 0 rfl rfl ?_
    refine V_partR dX7_now_44 lX7_92 _ (c_B_accounts w b.1 b.2 B ) D_B rfl rfl 0 rfl rfl rfl rfl ?_
    exact V_iret dX7_now_47 rfl (nb rfl) (nb rfl) ⟨by show some (Value.int (nI (B.1))) = _; refine congrArg (fun z => some (Value.int z)) ?_; clear hB; grind [dNow], rfl⟩
  by_cases zc2 : x = 1
  · refine V_tabIn 48 dX7_now_1 (by rw [zc2]; decide) (by rw [zc2]; decide) (by rw [zc2]; rfl) (by decide) ?_
    refine V_aload_n dX7_now_48 0 rfl ?_
    refine V_get dX7_now_49 fX7_49 0 rfl rfl ?_
    refine V_partR dX7_now_52 lX7_78 _ (c_B_journals w b.1 b.2 B ) D_B rfl rfl 0 rfl rfl rfl rfl ?_
    exact V_iret dX7_now_55 rfl (nb rfl) (nb rfl) ⟨by show some (Value.int (nI (B.2.1))) = _; refine congrArg (fun z => some (Value.int z)) ?_; clear hB; grind [dNow], rfl⟩
  by_cases zc3 : x = 2
  · refine V_tabIn 56 dX7_now_1 (by rw [zc3]; decide) (by rw [zc3]; decide) (by rw [zc3]; rfl) (by decide) ?_
    refine V_aload_n dX7_now_56 0 rfl ?_
    refine V_get dX7_now_57 fX7_49 0 rfl rfl ?_
    refine V_partR dX7_now_60 lX7_98 _ (c_B_struckOnes w b.1 b.2 B hB) D_B rfl rfl 0 rfl rfl rfl rfl ?_
    exact V_iret dX7_now_63 rfl (nb rfl) (nb rfl) ⟨by show some (Value.int (dSt B)) = _; refine congrArg (fun z => some (Value.int z)) ?_; clear hB; grind [dNow], rfl⟩
  by_cases zc4 : x = 3
  · refine V_tabIn 64 dX7_now_1 (by rw [zc4]; decide) (by rw [zc4]; decide) (by rw [zc4]; rfl) (by decide) ?_
    refine V_aload_n dX7_now_64 0 rfl ?_
    refine V_get dX7_now_65 fX7_49 0 rfl rfl ?_
    refine V_partR dX7_now_68 lX7_101 _ (c_B_toldOnes w b.1 b.2 B hB) D_B rfl rfl 0 rfl rfl rfl rfl ?_
    exact V_iret dX7_now_71 rfl (nb rfl) (nb rfl) ⟨by show some (Value.int (dTo B)) = _; refine congrArg (fun z => some (Value.int z)) ?_; clear hB; grind [dNow], rfl⟩
  by_cases zc5 : x = 4
  · refine V_tabIn 72 dX7_now_1 (by rw [zc5]; decide) (by rw [zc5]; decide) (by rw [zc5]; rfl) (by decide) ?_
    refine V_aload_n dX7_now_72 0 rfl ?_
    refine V_get dX7_now_73 fX7_42 0 rfl rfl ?_
    refine V_partR dX7_now_76 lX7_104 _ (c_A_size w D.2.2.2.2.2.2 A) D_A rfl rfl 0 rfl rfl rfl rfl ?_
    exact V_iret dX7_now_79 rfl (nb rfl) (nb rfl) ⟨by show some (Value.int (nI (A.1))) = _; refine congrArg (fun z => some (Value.int z)) ?_; clear hB; grind [dNow], rfl⟩
  by_cases zc6 : x = 5
  · refine V_tabIn 80 dX7_now_1 (by rw [zc6]; decide) (by rw [zc6]; decide) (by rw [zc6]; rfl) (by decide) ?_
    refine V_aload_n dX7_now_80 0 rfl ?_
    refine V_get dX7_now_81 fX7_12 0 rfl rfl ?_
    refine V_partR dX7_now_84 lX7_64 _ (c_T_size w D.2.1 T) D_T rfl rfl 0 rfl rfl rfl rfl ?_
    exact V_iret dX7_now_87 rfl (nb rfl) (nb rfl) ⟨by show some (Value.int (nI (T.1))) = _; refine congrArg (fun z => some (Value.int z)) ?_; clear hB; grind [dNow], rfl⟩
  refine V_tabOut 88 dX7_now_1 (v_out5 zc1 zc2 zc3 zc4 zc5 zc6) (by decide) ?_
  refine V_iconst (-1) dX7_now_88 (by decide) ?_
  exact V_iret dX7_now_89 rfl (nb rfl) (nb rfl) ⟨by show some (Value.int ((-1))) = _; refine congrArg (fun z => some (Value.int z)) ?_; clear hB; grind [dNow], rfl⟩

set_option maxRecDepth 100000 in
set_option maxHeartbeats 4000000 in
theorem c_D_change (w : vWd) (D : DW) (b c : DB) (T : TP) (P : RP) (G : GP) (Q : SP) (A : AP) (B E : BP) (f : Int32) (t : Int32) (hB : okB B) : Ct w mX7_change 3 0 0 [.ref (D.1), .int f, .int t] (cD w D b c T P G Q A B E) (qE (some (.int (dCha B f t))) (cD w D b c T P G Q A B E)) := by
  refine Ct.of (L := [(0, .ref (D.1)), (1, .int f), (2, .int t)]) (by decide) rfl rfl ?_
  refine V_iload_n dX7_change_0 1 rfl ?_
  refine V_iload_n dX7_change_1 2 rfl ?_
  refine V_purS dX7_change_2 lX7_184 (c_D_arePeriods w f t) rfl rfl rfl ?_
  refine V_ifeq_b 21 dX7_change_5 (by decide) (fun zc1 => ?_) (fun zc1 => ?_)
  · refine V_ldc dX7_change_21 kX7_188 ?_
    exact V_iret dX7_change_23 rfl (nb rfl) (nb rfl) ⟨by show some (Value.int ((-100000000))) = _; refine congrArg (fun z => some (Value.int z)) ?_; clear hB; grind [dCha], rfl⟩
  · refine V_aload_n dX7_change_8 0 rfl ?_
    refine V_get dX7_change_9 fX7_49 0 rfl rfl ?_
    refine V_iconst 0 dX7_change_12 (by decide) ?_
    refine V_iload_n dX7_change_13 1 rfl ?_
    refine V_iload_n dX7_change_14 2 rfl ?_
    refine V_partR dX7_change_15 lX7_193 _ (c_B_netOfKind w b.1 b.2 B 0 f t hB) D_B rfl rfl 0 rfl rfl rfl rfl ?_
    refine V_goto 23 dX7_change_18 (by decide) ?_
    exact V_iret dX7_change_23 rfl (nb rfl) (nb rfl) ⟨by show some (Value.int (dNk B 0 f t)) = _; refine congrArg (fun z => some (Value.int z)) ?_; clear hB; grind [dCha], rfl⟩

set_option maxRecDepth 100000 in
set_option maxHeartbeats 4000000 in
theorem c_D_makes (w : vWd) (D : DW) (b c : DB) (T : TP) (P : RP) (G : GP) (Q : SP) (A : AP) (B E : BP) (s : Int32) (f : Int32) (t : Int32) (hB : okB B) : Ct w mX7_makes 4 0 0 [.ref (D.1), .int s, .int f, .int t] (cD w D b c T P G Q A B E) (qE (some (.int (dMak B s f t))) (cD w D b c T P G Q A B E)) := by
  refine Ct.of (L := [(0, .ref (D.1)), (1, .int s), (2, .int f), (3, .int t)]) (by decide) rfl rfl ?_
  refine V_iload_n dX7_makes_0 1 rfl ?_
  refine V_purS dX7_makes_1 lX7_181 (c_D_isClass w s) rfl rfl rfl ?_
  refine V_ifeq_b 28 dX7_makes_4 (by decide) (fun zc1 => ?_) (fun zc1 => ?_)
  · refine V_iconst (-1) dX7_makes_28 (by decide) ?_
    exact V_iret dX7_makes_29 rfl (nb rfl) (nb rfl) ⟨by show some (Value.int ((-1))) = _; refine congrArg (fun z => some (Value.int z)) ?_; clear hB; grind [dMak], rfl⟩
  · refine V_iload_n dX7_makes_7 2 rfl ?_
    refine V_iload_n dX7_makes_8 3 rfl ?_
    refine V_purS dX7_makes_9 lX7_184 (c_D_arePeriods w f t) rfl rfl rfl ?_
    refine V_ifeq_b 28 dX7_makes_12 (by decide) (fun zc2 => ?_) (fun zc2 => ?_)
    · refine V_iconst (-1) dX7_makes_28 (by decide) ?_
      exact V_iret dX7_makes_29 rfl (nb rfl) (nb rfl) ⟨by show some (Value.int ((-1))) = _; refine congrArg (fun z => some (Value.int z)) ?_; clear hB; grind [dMak], rfl⟩
    · refine V_aload_n dX7_makes_15 0 rfl ?_
      refine V_get dX7_makes_16 fX7_49 0 rfl rfl ?_
      refine V_iload_n dX7_makes_19 1 rfl ?_
      refine V_iload_n dX7_makes_20 2 rfl ?_
      refine V_iload_n dX7_makes_21 3 rfl ?_
      refine V_partR dX7_makes_22 lX7_200 _ (c_B_makersOf w b.1 b.2 B s f t hB) D_B rfl rfl 0 rfl rfl rfl rfl ?_
      refine V_goto 29 dX7_makes_25 (by decide) ?_
      exact V_iret dX7_makes_29 rfl (nb rfl) (nb rfl) ⟨by show some (Value.int (dMk B s f t)) = _; refine congrArg (fun z => some (Value.int z)) ?_; clear hB; grind [dMak], rfl⟩

set_option maxRecDepth 100000 in
set_option maxHeartbeats 4000000 in
theorem c_D_deals (w : vWd) (D : DW) (b c : DB) (T : TP) (P : RP) (G : GP) (Q : SP) (A : AP) (B E : BP) (k : Int32) (u : Int32) (f : Int32) (t : Int32) (hB : okB B) : Ct w mX7_deals 3 0 0 [.ref (D.1), .int k, .int u, .int f, .int t] (cD w D b c T P G Q A B E) (qE (some (.int (dDea B k u f t))) (cD w D b c T P G Q A B E)) := by
  refine Ct.of (L := [(0, .ref (D.1)), (1, .int k), (2, .int u), (3, .int f), (4, .int t)]) (by decide) rfl rfl ?_
  refine V_iload_n dX7_deals_0 1 rfl ?_
  refine V_if_le 19 dX7_deals_1 (by decide) (fun zc1 => ?_) (fun zc1 => ?_)
  · refine V_iconst 0 dX7_deals_19 (by decide) ?_
    refine V_istore dX7_deals_20 rfl (L' := [(0, .ref (D.1)), (1, .int k), (2, .int u), (3, .int f), (4, .int t), (5, .int 0)]) rfl ?_
    refine V_iload dX7_deals_22 5 rfl ?_
    refine V_if_eq_t 51 dX7_deals_24 (by decide) (by decide) ?_
    refine V_iconst (-1) dX7_deals_51 (by decide) ?_
    exact V_iret dX7_deals_52 rfl (nb rfl) (nb rfl) ⟨by show some (Value.int ((-1))) = _; refine congrArg (fun z => some (Value.int z)) ?_; clear hB; grind [dDea], rfl⟩
  · refine V_iload_n dX7_deals_4 1 rfl ?_
    refine V_iload_n dX7_deals_5 2 rfl ?_
    refine V_icmp_gt 19 dX7_deals_6 (by decide) (fun zc3 => ?_) (fun zc3 => ?_)
    · refine V_iconst 0 dX7_deals_19 (by decide) ?_
      refine V_istore dX7_deals_20 rfl (L' := [(0, .ref (D.1)), (1, .int k), (2, .int u), (3, .int f), (4, .int t), (5, .int 0)]) rfl ?_
      refine V_iload dX7_deals_22 5 rfl ?_
      refine V_if_eq_t 51 dX7_deals_24 (by decide) (by decide) ?_
      refine V_iconst (-1) dX7_deals_51 (by decide) ?_
      exact V_iret dX7_deals_52 rfl (nb rfl) (nb rfl) ⟨by show some (Value.int ((-1))) = _; refine congrArg (fun z => some (Value.int z)) ?_; clear hB; grind [dDea], rfl⟩
    · refine V_iload_n dX7_deals_9 2 rfl ?_
      refine V_bipush 6 dX7_deals_10 (by decide) ?_
      refine V_icmp_ge 19 dX7_deals_12 (by decide) (fun zc5 => ?_) (fun zc5 => ?_)
      · refine V_iconst 0 dX7_deals_19 (by decide) ?_
        refine V_istore dX7_deals_20 rfl (L' := [(0, .ref (D.1)), (1, .int k), (2, .int u), (3, .int f), (4, .int t), (5, .int 0)]) rfl ?_
        refine V_iload dX7_deals_22 5 rfl ?_
        refine V_if_eq_t 51 dX7_deals_24 (by decide) (by decide) ?_
        refine V_iconst (-1) dX7_deals_51 (by decide) ?_
        exact V_iret dX7_deals_52 rfl (nb rfl) (nb rfl) ⟨by show some (Value.int ((-1))) = _; refine congrArg (fun z => some (Value.int z)) ?_; clear hB; grind [dDea], rfl⟩
      · refine V_iconst 1 dX7_deals_15 (by decide) ?_
        refine V_goto 20 dX7_deals_16 (by decide) ?_
        refine V_istore dX7_deals_20 rfl (L' := [(0, .ref (D.1)), (1, .int k), (2, .int u), (3, .int f), (4, .int t), (5, .int 1)]) rfl ?_
        refine V_iload dX7_deals_22 5 rfl ?_
        refine V_if_eq_f 51 dX7_deals_24 (by decide) (by decide) ?_
        refine V_iload_n dX7_deals_27 3 rfl ?_
        refine V_iload dX7_deals_28 4 rfl ?_
        refine V_purS dX7_deals_30 lX7_184 (c_D_arePeriods w f t) rfl rfl rfl ?_
        refine V_ifeq_b 51 dX7_deals_33 (by decide) (fun zc8 => ?_) (fun zc8 => ?_)
        · refine V_iconst (-1) dX7_deals_51 (by decide) ?_
          exact V_iret dX7_deals_52 rfl (nb rfl) (nb rfl) ⟨by show some (Value.int ((-1))) = _; refine congrArg (fun z => some (Value.int z)) ?_; clear hB; grind [dDea], rfl⟩
        · refine V_aload_n dX7_deals_36 0 rfl ?_
          refine V_get dX7_deals_37 fX7_49 0 rfl rfl ?_
          refine V_iload_n dX7_deals_40 1 rfl ?_
          refine V_iload_n dX7_deals_41 2 rfl ?_
          refine V_iload_n dX7_deals_42 3 rfl ?_
          refine V_iload dX7_deals_43 4 rfl ?_
          refine V_partR dX7_deals_45 lX7_203 _ (c_B_dealt w b.1 b.2 B k u f t hB) D_B rfl rfl 0 rfl rfl rfl rfl ?_
          refine V_goto 52 dX7_deals_48 (by decide) ?_
          exact V_iret dX7_deals_52 rfl (nb rfl) (nb rfl) ⟨by show some (Value.int (dDl B k u f t)) = _; refine congrArg (fun z => some (Value.int z)) ?_; clear hB; grind [dDea], rfl⟩

set_option maxRecDepth 100000 in
set_option maxHeartbeats 4000000 in
theorem c_D_balance (w : vWd) (D : DW) (b c : DB) (T : TP) (P : RP) (G : GP) (Q : SP) (A : AP) (B E : BP) (x : Int32) (p : Int32) (hB : okB B) : Ct w mX7_balance 4 0 0 [.ref (D.1), .int x, .int p] (cD w D b c T P G Q A B E) (qE (some (.int (dBal B x p))) (cD w D b c T P G Q A B E)) := by
  refine Ct.of (L := [(0, .ref (D.1)), (1, .int x), (2, .int p)]) (by decide) rfl rfl ?_
  refine V_aload_n dX7_balance_0 0 rfl ?_
  refine V_get dX7_balance_1 fX7_49 0 rfl rfl ?_
  refine V_iload_n dX7_balance_4 1 rfl ?_
  refine V_partR dX7_balance_5 lX7_105 _ (c_B_hasAccount w b.1 b.2 B x ) D_B rfl rfl 0 rfl rfl rfl rfl ?_
  refine V_ifeq_b 22 dX7_balance_8 (by decide) (fun zc1 => ?_) (fun zc1 => ?_)
  · refine V_iconst 0 dX7_balance_22 (by decide) ?_
    refine V_istore_n dX7_balance_23 rfl (L' := [(0, .ref (D.1)), (1, .int x), (2, .int p), (3, .int 0)]) rfl ?_
    refine V_iload_n dX7_balance_24 3 rfl ?_
    refine V_if_eq_t 40 dX7_balance_25 (by decide) (by decide) ?_
    refine V_ldc dX7_balance_40 kX7_188 ?_
    exact V_iret dX7_balance_42 rfl (nb rfl) (nb rfl) ⟨by show some (Value.int ((-100000000))) = _; refine congrArg (fun z => some (Value.int z)) ?_; clear hB; grind [dBal], rfl⟩
  · refine V_iload_n dX7_balance_11 2 rfl ?_
    refine V_purS dX7_balance_12 lX7_207 (c_D_isPeriod w p) rfl rfl rfl ?_
    refine V_ifeq_b 22 dX7_balance_15 (by decide) (fun zc3 => ?_) (fun zc3 => ?_)
    · refine V_iconst 0 dX7_balance_22 (by decide) ?_
      refine V_istore_n dX7_balance_23 rfl (L' := [(0, .ref (D.1)), (1, .int x), (2, .int p), (3, .int 0)]) rfl ?_
      refine V_iload_n dX7_balance_24 3 rfl ?_
      refine V_if_eq_t 40 dX7_balance_25 (by decide) (by decide) ?_
      refine V_ldc dX7_balance_40 kX7_188 ?_
      exact V_iret dX7_balance_42 rfl (nb rfl) (nb rfl) ⟨by show some (Value.int ((-100000000))) = _; refine congrArg (fun z => some (Value.int z)) ?_; clear hB; grind [dBal], rfl⟩
    · refine V_iconst 1 dX7_balance_18 (by decide) ?_
      refine V_goto 23 dX7_balance_19 (by decide) ?_
      refine V_istore_n dX7_balance_23 rfl (L' := [(0, .ref (D.1)), (1, .int x), (2, .int p), (3, .int 1)]) rfl ?_
      refine V_iload_n dX7_balance_24 3 rfl ?_
      refine V_if_eq_f 40 dX7_balance_25 (by decide) (by decide) ?_
      refine V_aload_n dX7_balance_28 0 rfl ?_
      refine V_get dX7_balance_29 fX7_49 0 rfl rfl ?_
      refine V_iload_n dX7_balance_32 1 rfl ?_
      refine V_iload_n dX7_balance_33 2 rfl ?_
      refine V_partR dX7_balance_34 lX7_122 _ (c_B_balanceOf w b.1 b.2 B x p hB) D_B rfl rfl 0 rfl rfl rfl rfl ?_
      refine V_goto 42 dX7_balance_37 (by decide) ?_
      exact V_iret dX7_balance_42 rfl (nb rfl) (nb rfl) ⟨by show some (Value.int (bBal B x p)) = _; refine congrArg (fun z => some (Value.int z)) ?_; clear hB; grind [dBal], rfl⟩

set_option maxRecDepth 100000 in
set_option maxHeartbeats 4000000 in
theorem c_D_indirect (w : vWd) (D : DW) (b c : DB) (T : TP) (P : RP) (G : GP) (Q : SP) (A : AP) (B E : BP) (f : Int32) (t : Int32) (x : Int32) (hB : okB B) : Ct w mX7_indirect 5 0 0 [.ref (D.1), .int f, .int t, .int x] (cD w D b c T P G Q A B E) (qE (some (.int (dInd B f t x))) (cD w D b c T P G Q A B E)) := by
  refine Ct.of (L := [(0, .ref (D.1)), (1, .int f), (2, .int t), (3, .int x)]) (by decide) rfl rfl ?_
  refine V_iload_n dX7_indirect_0 1 rfl ?_
  refine V_iload_n dX7_indirect_1 2 rfl ?_
  refine V_purS dX7_indirect_2 lX7_184 (c_D_arePeriods w f t) rfl rfl rfl ?_
  refine V_ifeq_b 17 dX7_indirect_5 (by decide) (fun zc1 => ?_) (fun zc1 => ?_)
  · refine V_ldc dX7_indirect_17 kX7_188 ?_
    exact V_iret dX7_indirect_19 rfl (nb rfl) (nb rfl) ⟨by show some (Value.int ((-100000000))) = _; refine congrArg (fun z => some (Value.int z)) ?_; clear hB; grind [dInd], rfl⟩
  · refine V_iload_n dX7_indirect_8 3 rfl ?_
    refine V_if_lt 17 dX7_indirect_9 (by decide) (fun zc2 => ?_) (fun zc2 => ?_)
    · refine V_ldc dX7_indirect_17 kX7_188 ?_
      exact V_iret dX7_indirect_19 rfl (nb rfl) (nb rfl) ⟨by show some (Value.int ((-100000000))) = _; refine congrArg (fun z => some (Value.int z)) ?_; clear hB; grind [dInd], rfl⟩
    · refine V_iload_n dX7_indirect_12 3 rfl ?_
      refine V_iconst 3 dX7_indirect_13 (by decide) ?_
      refine V_icmp_le 20 dX7_indirect_14 (by decide) (fun zc3 => ?_) (fun zc3 => ?_)
      · refine V_aload_n dX7_indirect_20 0 rfl ?_
        refine V_get dX7_indirect_21 fX7_49 0 rfl rfl ?_
        refine V_iconst 2 dX7_indirect_24 (by decide) ?_
        refine V_iload_n dX7_indirect_25 1 rfl ?_
        refine V_iload_n dX7_indirect_26 2 rfl ?_
        refine V_partR dX7_indirect_27 lX7_193 _ (c_B_netOfKind w b.1 b.2 B 2 f t hB) D_B rfl rfl 0 rfl rfl rfl rfl ?_
        refine V_ineg dX7_indirect_30 ?_
        refine V_istore dX7_indirect_31 rfl (L' := [(0, .ref (D.1)), (1, .int f), (2, .int t), (3, .int x), (4, .int (-(dNk B 2 f t)))]) rfl ?_
        refine V_aload_n dX7_indirect_33 0 rfl ?_
        refine V_get dX7_indirect_34 fX7_49 0 rfl rfl ?_
        refine V_iconst 1 dX7_indirect_37 (by decide) ?_
        refine V_iload_n dX7_indirect_38 1 rfl ?_
        refine V_iload_n dX7_indirect_39 2 rfl ?_
        refine V_partR dX7_indirect_40 lX7_193 _ (c_B_netOfKind w b.1 b.2 B 1 f t hB) D_B rfl rfl 0 rfl rfl rfl rfl ?_
        refine V_ineg dX7_indirect_43 ?_
        refine V_istore dX7_indirect_44 rfl (L' := [(0, .ref (D.1)), (1, .int f), (2, .int t), (3, .int x), (4, .int (-(dNk B 2 f t))), (5, .int (-(dNk B 1 f t)))]) rfl ?_
        refine V_aload_n dX7_indirect_46 0 rfl ?_
        refine V_get dX7_indirect_47 fX7_49 0 rfl rfl ?_
        refine V_iload_n dX7_indirect_50 1 rfl ?_
        refine V_iload_n dX7_indirect_51 2 rfl ?_
        refine V_partR dX7_indirect_52 lX7_197 _ (c_B_setApart w b.1 b.2 B f t hB) D_B rfl rfl 0 rfl rfl rfl rfl ?_
        refine V_istore dX7_indirect_55 rfl (L' := [(0, .ref (D.1)), (1, .int f), (2, .int t), (3, .int x), (4, .int (-(dNk B 2 f t))), (5, .int (-(dNk B 1 f t))), (6, .int (dAp B f t))]) rfl ?_
        refine V_iload_n dX7_indirect_57 3 rfl ?_
        by_cases zc4 : x = 1
        · refine V_tabIn 84 dX7_indirect_58 (by rw [zc4]; decide) (by rw [zc4]; decide) (by rw [zc4]; rfl) (by decide) ?_
          refine V_iload dX7_indirect_84 4 rfl ?_
          exact V_iret dX7_indirect_86 rfl (nb rfl) (nb rfl) ⟨by show some (Value.int (-(dNk B 2 f t))) = _; refine congrArg (fun z => some (Value.int z)) ?_; clear hB; grind [dInd], rfl⟩
        by_cases zc5 : x = 2
        · refine V_tabIn 87 dX7_indirect_58 (by rw [zc5]; decide) (by rw [zc5]; decide) (by rw [zc5]; rfl) (by decide) ?_
          refine V_iload dX7_indirect_87 5 rfl ?_
          exact V_iret dX7_indirect_89 rfl (nb rfl) (nb rfl) ⟨by show some (Value.int (-(dNk B 1 f t))) = _; refine congrArg (fun z => some (Value.int z)) ?_; clear hB; grind [dInd], rfl⟩
        by_cases zc6 : x = 3
        · refine V_tabIn 90 dX7_indirect_58 (by rw [zc6]; decide) (by rw [zc6]; decide) (by rw [zc6]; rfl) (by decide) ?_
          refine V_iload dX7_indirect_90 6 rfl ?_
          exact V_iret dX7_indirect_92 rfl (nb rfl) (nb rfl) ⟨by show some (Value.int (dAp B f t)) = _; refine congrArg (fun z => some (Value.int z)) ?_; clear hB; grind [dInd], rfl⟩
        refine V_tabOut 93 dX7_indirect_58 (v_out1_3 zc4 zc5 zc6) (by decide) ?_
        refine V_iload dX7_indirect_93 4 rfl ?_
        refine V_iload dX7_indirect_95 5 rfl ?_
        refine V_iadd dX7_indirect_97 ?_
        refine V_iload dX7_indirect_98 6 rfl ?_
        refine V_iadd dX7_indirect_100 ?_
        exact V_iret dX7_indirect_101 rfl (nb rfl) (nb rfl) ⟨by show some (Value.int (((-(dNk B 2 f t)) + (-(dNk B 1 f t))) + (dAp B f t))) = _; refine congrArg (fun z => some (Value.int z)) ?_; clear hB; grind [dInd], rfl⟩
      · refine V_ldc dX7_indirect_17 kX7_188 ?_
        exact V_iret dX7_indirect_19 rfl (nb rfl) (nb rfl) ⟨by show some (Value.int ((-100000000))) = _; refine congrArg (fun z => some (Value.int z)) ?_; clear hB; grind [dInd], rfl⟩

set_option maxRecDepth 100000 in
set_option maxHeartbeats 4000000 in
theorem c_D_direct (w : vWd) (D : DW) (b c : DB) (T : TP) (P : RP) (G : GP) (Q : SP) (A : AP) (B E : BP) (s : Int32) (f : Int32) (t : Int32) (x : Int32) (hB : okB B) : Ct w mX7_direct 4 0 0 [.ref (D.1), .int s, .int f, .int t, .int x] (cD w D b c T P G Q A B E) (qE (some (.int (dDir B s f t x))) (cD w D b c T P G Q A B E)) := by
  refine Ct.of (L := [(0, .ref (D.1)), (1, .int s), (2, .int f), (3, .int t), (4, .int x)]) (by decide) rfl rfl ?_
  refine V_iload_n dX7_direct_0 1 rfl ?_
  refine V_purS dX7_direct_1 lX7_181 (c_D_isClass w s) rfl rfl rfl ?_
  refine V_ifeq_b 26 dX7_direct_4 (by decide) (fun zc1 => ?_) (fun zc1 => ?_)
  · refine V_ldc dX7_direct_26 kX7_188 ?_
    exact V_iret dX7_direct_28 rfl (nb rfl) (nb rfl) ⟨by show some (Value.int ((-100000000))) = _; refine congrArg (fun z => some (Value.int z)) ?_; clear hB; grind [dDir], rfl⟩
  · refine V_iload_n dX7_direct_7 2 rfl ?_
    refine V_iload_n dX7_direct_8 3 rfl ?_
    refine V_purS dX7_direct_9 lX7_184 (c_D_arePeriods w f t) rfl rfl rfl ?_
    refine V_ifeq_b 26 dX7_direct_12 (by decide) (fun zc2 => ?_) (fun zc2 => ?_)
    · refine V_ldc dX7_direct_26 kX7_188 ?_
      exact V_iret dX7_direct_28 rfl (nb rfl) (nb rfl) ⟨by show some (Value.int ((-100000000))) = _; refine congrArg (fun z => some (Value.int z)) ?_; clear hB; grind [dDir], rfl⟩
    · refine V_iload dX7_direct_15 4 rfl ?_
      refine V_if_lt 26 dX7_direct_17 (by decide) (fun zc3 => ?_) (fun zc3 => ?_)
      · refine V_ldc dX7_direct_26 kX7_188 ?_
        exact V_iret dX7_direct_28 rfl (nb rfl) (nb rfl) ⟨by show some (Value.int ((-100000000))) = _; refine congrArg (fun z => some (Value.int z)) ?_; clear hB; grind [dDir], rfl⟩
      · refine V_iload dX7_direct_20 4 rfl ?_
        refine V_iconst 2 dX7_direct_22 (by decide) ?_
        refine V_icmp_le 29 dX7_direct_23 (by decide) (fun zc4 => ?_) (fun zc4 => ?_)
        · refine V_iload dX7_direct_29 4 rfl ?_
          refine V_iconst 1 dX7_direct_31 (by decide) ?_
          refine V_icmp_ne 39 dX7_direct_32 (by decide) (fun zc5 => ?_) (fun zc5 => ?_)
          · refine V_aload_n dX7_direct_39 0 rfl ?_
            refine V_get dX7_direct_40 fX7_49 0 rfl rfl ?_
            refine V_iload_n dX7_direct_43 1 rfl ?_
            refine V_iconst 1 dX7_direct_44 (by decide) ?_
            refine V_iload_n dX7_direct_45 2 rfl ?_
            refine V_iload_n dX7_direct_46 3 rfl ?_
            refine V_partR dX7_direct_47 lX7_189 _ (c_B_cashMoved w b.1 b.2 B s true f t hB) D_B rfl rfl 0 rfl rfl rfl rfl ?_
            refine V_istore dX7_direct_50 rfl (L' := [(0, .ref (D.1)), (1, .int s), (2, .int f), (3, .int t), (4, .int x), (5, .int (dCm B s true f t))]) rfl ?_
            refine V_iload dX7_direct_52 4 rfl ?_
            refine V_if_ne 61 dX7_direct_54 (by decide) (fun zc6 => ?_) (fun zc6 => ?_)
            · refine V_aload_n dX7_direct_61 0 rfl ?_
              refine V_get dX7_direct_62 fX7_49 0 rfl rfl ?_
              refine V_iload_n dX7_direct_65 1 rfl ?_
              refine V_iconst 0 dX7_direct_66 (by decide) ?_
              refine V_iload_n dX7_direct_67 2 rfl ?_
              refine V_iload_n dX7_direct_68 3 rfl ?_
              refine V_partR dX7_direct_69 lX7_189 _ (c_B_cashMoved w b.1 b.2 B s false f t hB) D_B rfl rfl 0 rfl rfl rfl rfl ?_
              refine V_istore dX7_direct_72 rfl (L' := [(0, .ref (D.1)), (1, .int s), (2, .int f), (3, .int t), (4, .int x), (5, .int (dCm B s true f t)), (6, .int (dCm B s false f t))]) rfl ?_
              refine V_iload dX7_direct_74 4 rfl ?_
              refine V_iconst 1 dX7_direct_76 (by decide) ?_
              refine V_icmp_ne 85 dX7_direct_77 (by decide) (fun zc7 => ?_) (fun zc7 => ?_)
              · refine V_iload dX7_direct_85 5 rfl ?_
                refine V_iload dX7_direct_87 6 rfl ?_
                refine V_isub dX7_direct_89 ?_
                exact V_iret dX7_direct_90 rfl (nb rfl) (nb rfl) ⟨by show some (Value.int ((dCm B s true f t) - (dCm B s false f t))) = _; refine congrArg (fun z => some (Value.int z)) ?_; clear hB; grind [dDir], rfl⟩
              · refine V_iload dX7_direct_80 6 rfl ?_
                refine V_goto 90 dX7_direct_82 (by decide) ?_
                exact V_iret dX7_direct_90 rfl (nb rfl) (nb rfl) ⟨by show some (Value.int (dCm B s false f t)) = _; refine congrArg (fun z => some (Value.int z)) ?_; clear hB; grind [dDir], rfl⟩
            · refine V_iconst 0 dX7_direct_57 (by decide) ?_
              refine V_goto 72 dX7_direct_58 (by decide) ?_
              refine V_istore dX7_direct_72 rfl (L' := [(0, .ref (D.1)), (1, .int s), (2, .int f), (3, .int t), (4, .int x), (5, .int (dCm B s true f t)), (6, .int 0)]) rfl ?_
              refine V_iload dX7_direct_74 4 rfl ?_
              refine V_iconst 1 dX7_direct_76 (by decide) ?_
              refine V_icmp_ne 85 dX7_direct_77 (by decide) (fun zc8 => ?_) (fun zc8 => ?_)
              · refine V_iload dX7_direct_85 5 rfl ?_
                refine V_iload dX7_direct_87 6 rfl ?_
                refine V_isub dX7_direct_89 ?_
                exact V_iret dX7_direct_90 rfl (nb rfl) (nb rfl) ⟨by show some (Value.int ((dCm B s true f t) - 0)) = _; refine congrArg (fun z => some (Value.int z)) ?_; clear hB; grind [dDir], rfl⟩
              · refine V_iload dX7_direct_80 6 rfl ?_
                refine V_goto 90 dX7_direct_82 (by decide) ?_
                exact V_iret dX7_direct_90 rfl (nb rfl) (nb rfl) ⟨by show some (Value.int (0)) = _; refine congrArg (fun z => some (Value.int z)) ?_; clear hB; grind [dDir], rfl⟩
          · refine V_iconst 0 dX7_direct_35 (by decide) ?_
            refine V_goto 50 dX7_direct_36 (by decide) ?_
            refine V_istore dX7_direct_50 rfl (L' := [(0, .ref (D.1)), (1, .int s), (2, .int f), (3, .int t), (4, .int x), (5, .int 0)]) rfl ?_
            refine V_iload dX7_direct_52 4 rfl ?_
            refine V_if_ne 61 dX7_direct_54 (by decide) (fun zc9 => ?_) (fun zc9 => ?_)
            · refine V_aload_n dX7_direct_61 0 rfl ?_
              refine V_get dX7_direct_62 fX7_49 0 rfl rfl ?_
              refine V_iload_n dX7_direct_65 1 rfl ?_
              refine V_iconst 0 dX7_direct_66 (by decide) ?_
              refine V_iload_n dX7_direct_67 2 rfl ?_
              refine V_iload_n dX7_direct_68 3 rfl ?_
              refine V_partR dX7_direct_69 lX7_189 _ (c_B_cashMoved w b.1 b.2 B s false f t hB) D_B rfl rfl 0 rfl rfl rfl rfl ?_
              refine V_istore dX7_direct_72 rfl (L' := [(0, .ref (D.1)), (1, .int s), (2, .int f), (3, .int t), (4, .int x), (5, .int 0), (6, .int (dCm B s false f t))]) rfl ?_
              refine V_iload dX7_direct_74 4 rfl ?_
              refine V_iconst 1 dX7_direct_76 (by decide) ?_
              refine V_icmp_ne 85 dX7_direct_77 (by decide) (fun zc10 => ?_) (fun zc10 => ?_)
              · refine V_iload dX7_direct_85 5 rfl ?_
                refine V_iload dX7_direct_87 6 rfl ?_
                refine V_isub dX7_direct_89 ?_
                exact V_iret dX7_direct_90 rfl (nb rfl) (nb rfl) ⟨by show some (Value.int (0 - (dCm B s false f t))) = _; refine congrArg (fun z => some (Value.int z)) ?_; clear hB; grind [dDir], rfl⟩
              · refine V_iload dX7_direct_80 6 rfl ?_
                refine V_goto 90 dX7_direct_82 (by decide) ?_
                exact V_iret dX7_direct_90 rfl (nb rfl) (nb rfl) ⟨by show some (Value.int (dCm B s false f t)) = _; refine congrArg (fun z => some (Value.int z)) ?_; clear hB; grind [dDir], rfl⟩
            · refine V_iconst 0 dX7_direct_57 (by decide) ?_
              refine V_goto 72 dX7_direct_58 (by decide) ?_
              refine V_istore dX7_direct_72 rfl (L' := [(0, .ref (D.1)), (1, .int s), (2, .int f), (3, .int t), (4, .int x), (5, .int 0), (6, .int 0)]) rfl ?_
              refine V_iload dX7_direct_74 4 rfl ?_
              refine V_iconst 1 dX7_direct_76 (by decide) ?_
              refine V_icmp_ne 85 dX7_direct_77 (by decide) (fun zc11 => ?_) (fun zc11 => ?_)
              · refine V_iload dX7_direct_85 5 rfl ?_
                refine V_iload dX7_direct_87 6 rfl ?_
                refine V_isub dX7_direct_89 ?_
                exact V_iret dX7_direct_90 rfl (nb rfl) (nb rfl) ⟨by show some (Value.int (0 - 0)) = _; refine congrArg (fun z => some (Value.int z)) ?_; clear hB; grind [dDir], rfl⟩
              · refine V_iload dX7_direct_80 6 rfl ?_
                refine V_goto 90 dX7_direct_82 (by decide) ?_
                exact V_iret dX7_direct_90 rfl (nb rfl) (nb rfl) ⟨by show some (Value.int (0)) = _; refine congrArg (fun z => some (Value.int z)) ?_; clear hB; grind [dDir], rfl⟩
        · refine V_ldc dX7_direct_26 kX7_188 ?_
          exact V_iret dX7_direct_28 rfl (nb rfl) (nb rfl) ⟨by show some (Value.int ((-100000000))) = _; refine congrArg (fun z => some (Value.int z)) ?_; clear hB; grind [dDir], rfl⟩
