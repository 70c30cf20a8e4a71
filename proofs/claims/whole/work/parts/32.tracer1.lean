/-! 32: CashDeriver$Tracer: explain, searches -/
section VAI
variable {w : vWd} {M : vMet} {C : vCtx} {k n pc : Nat} {L : List (Nat × Value)} {st : List Value} {ws : va_W}
theorem V_aaldI {a N : Nat} {f : Nat → Option Nat} {i : Int32} (hd : vdec M pc (.aaload) 1) (q0 : Nat) (he : ws[q0]? = some (a, .inl (vA w 4, N, .inr (.inr (.inr (.inr f)))))) (hN : Nat.ble N 1000000 = true) (j : Nat) (hi : i = nI j) (hj : j < N) (h : V w M C k n (pc + 1) L (va_rf (f j) :: st) ws) : V w M C k n pc L (.int i :: .ref a :: st) ws := by
  obtain ⟨h1, h2⟩ := v_in hi hj hN
  subst h2
  intro p e s m args below meth c A H locs ls o E hP hD hS hl
  have hlt : i.toNatClampNeg < N := Nat.not_le.mp fun q => h1 (Or.inr q)
  exact W.aald (v := va_rf (f i.toNatClampNeg)) (ty := .array .int) o.1 o.2.1 (hP q0 _ he) ((o.2.2.2.2.2.2.2.1.2 4 _ rfl).1 N (fun j => va_rf (f j))) rfl (fun q => by cases q) (by show ¬ (i < 0 ∨ (arrV _ _ _).slots.size ≤ _); rw [arrV_size]; exact h1) (by show (arrV _ _ _).slots[_]? = _; rw [arrV_read _ _ hlt]) rfl rfl hd (h p e s m args below meth c A H locs ls o E hP hD hS hl)
end VAI
/-- journals that count, accounts told; their numbers, what is too much; the shares -/
abbrev SP : Type := Nat × Nat × (Nat → Int32) × (Nat → Int32) × (Nat → Nat → Int32)
def cQ5 (w : vWd) (a sr : Nat → Nat) (Q : SP) : va_W := [(a 0, .inr (6, [.ref (a 1), .ref (a 2), .ref (a 3), .int (nI Q.1), .int (nI Q.2.1)])), (a 1, .inl (vA w 0, 30, .inl Q.2.2.1)), (a 2, .inl (vA w 4, 31, .inr (.inr (.inr (.inr (fun i => some (sr i))))))), (a 3, .inl (vA w 0, 12, .inl Q.2.2.2.1))]
def cQ (w : vWd) (a sr : Nat → Nat) (Q : SP) : va_W := cQ5 w a sr Q ++ (List.range 31).map (fun i => (sr i, .inl (vA w 0, 12, .inl (Q.2.2.2.2 i))))
theorem cQ_row {w : vWd} {a sr : Nat → Nat} {Q : SP} {X : va_W} {i : Nat} (hi : i < 31) : (cQ w a sr Q ++ X)[4 + i]? = some (sr i, .inl (vA w 0, 12, .inl (Q.2.2.2.2 i))) := by
  have h1 : 4 + i < (cQ w a sr Q).length := by simp [cQ, cQ5]; omega
  rw [List.getElem?_append_left h1]
  show (cQ5 w a sr Q ++ _)[4 + i]? = _
  rw [List.getElem?_append_right (by simp [cQ5])]
  simp [cQ5, hi]
theorem cQ_row0 {w : vWd} {a sr : Nat → Nat} {Q : SP} {i : Nat} (hi : i < 31) : (cQ w a sr Q)[4 + i]? = some (sr i, .inl (vA w 0, 12, .inl (Q.2.2.2.2 i))) := by
  have h := cQ_row (w := w) (a := a) (sr := sr) (Q := Q) (X := []) hi
  rwa [List.append_nil] at h
def okQ (Q : SP) : Prop := Q.1 ≤ 30 ∧ Q.2.1 ≤ 12
def sEx (Q : SP) (x y z : Nat) : Bool := decide (∀ i, i < Q.2.1 → Q.2.2.2.2 x i + Q.2.2.2.2 y i + Q.2.2.2.2 z i = Q.2.2.2.1 i)
def sBit (Q : SP) (x : Nat) : Int32 := 1 <<< (Q.2.2.1 x &&& 31)

set_option maxRecDepth 100000 in
set_option maxHeartbeats 4000000 in
theorem lp_S_explain (w : vWd) (a sr : Nat → Nat) (Q : SP) (hQ : okQ Q) (x y z : Nat) (hx : x < 31) (hy : y < 31) (hz : z < 31) : ∀ (m : Nat) (k : Nat), (Q.2.1 + 1 ≤ k + m) → (k ≤ Q.2.1) → (∀ i, i < k → Q.2.2.2.2 x i + Q.2.2.2.2 y i + Q.2.2.2.2 z i = Q.2.2.2.1 i) → V w mX6_explain (vc w 0 0 0 (qE (some (.int (bi (sEx Q x y z)))) (cQ w a sr Q))) 0 0 3 [(0, .ref (a 0)), (1, .int (nI x)), (2, .int (nI y)), (3, .int (nI z)), (4, .int (nI k))] [] (cQ w a sr Q) := by
  intro m
  induction m with
  | zero =>
    intro k h1 h2 hg
    exact absurd h1 (by omega)
  | succ m ih =>
    intro k h1 h2 hg
    obtain ⟨hq1, hq2⟩ := id hQ
    refine V_iload dX6_explain_3 4 rfl ?_
    refine V_aload_n dX6_explain_5 0 rfl ?_
    refine V_get dX6_explain_6 fX6_27 0 rfl rfl ?_
    refine V_icmp_ge_n k Q.2.1 59 dX6_explain_9 (by decide) (by omega) (by omega) (fun zc1 => ?_) (fun zc1 => ?_)
    · refine V_iconst 1 dX6_explain_59 (by decide) ?_
      exact V_zret dX6_explain_60 rfl rfl (nb rfl) (nb rfl) ⟨by rw [sEx, decide_eq_true (fun i hi => hg i (by omega))]; rfl, rfl⟩
    · refine V_aload_n dX6_explain_12 0 rfl ?_
      refine V_get dX6_explain_13 fX6_17 0 rfl rfl ?_
      refine V_iload_n dX6_explain_16 1 rfl ?_
      refine V_aaldI dX6_explain_17 2 rfl rfl x rfl (by omega) ?_
      refine V_iload dX6_explain_18 4 rfl ?_
      refine V_iald dX6_explain_20 (4 + x) (cQ_row0 (by omega)) rfl k rfl (by omega) ?_
      refine V_aload_n dX6_explain_21 0 rfl ?_
      refine V_get dX6_explain_22 fX6_17 0 rfl rfl ?_
      refine V_iload_n dX6_explain_25 2 rfl ?_
      refine V_aaldI dX6_explain_26 2 rfl rfl y rfl (by omega) ?_
      refine V_iload dX6_explain_27 4 rfl ?_
      refine V_iald dX6_explain_29 (4 + y) (cQ_row0 (by omega)) rfl k rfl (by omega) ?_
      refine V_iadd dX6_explain_30 ?_
      refine V_aload_n dX6_explain_31 0 rfl ?_
      refine V_get dX6_explain_32 fX6_17 0 rfl rfl ?_
      refine V_iload_n dX6_explain_35 3 rfl ?_
      refine V_aaldI dX6_explain_36 2 rfl rfl z rfl (by omega) ?_
      refine V_iload dX6_explain_37 4 rfl ?_
      refine V_iald dX6_explain_39 (4 + z) (cQ_row0 (by omega)) rfl k rfl (by omega) ?_
      refine V_iadd dX6_explain_40 ?_
      refine V_aload_n dX6_explain_41 0 rfl ?_
      refine V_get dX6_explain_42 fX6_20 0 rfl rfl ?_
      refine V_iload dX6_explain_45 4 rfl ?_
      refine V_iald dX6_explain_47 3 rfl rfl k rfl (by omega) ?_
      refine V_icmp_eq 53 dX6_explain_48 (by decide) (fun zc2 => ?_) (fun zc2 => ?_)
      · have zn := zc2
        refine V_iinc (nI (k + 1)) dX6_explain_53 4 rfl (nI_i1 k) rfl (L' := [(0, .ref (a 0)), (1, .int (nI x)), (2, .int (nI y)), (3, .int (nI z)), (4, .int (nI (k + 1)))]) rfl ?_
        refine V_goto 3 dX6_explain_56 (by decide) ?_
        refine ih (k + 1) (by omega) (by omega) (fun i hi => ?_)
        by_cases hik : i < k
        · exact hg i hik
        · obtain rfl : i = k := by omega
          exact zn
      · have zn := zc2
        refine V_iconst 0 dX6_explain_51 (by decide) ?_
        exact V_zret dX6_explain_52 rfl rfl (nb rfl) (nb rfl) ⟨by rw [sEx, decide_eq_false (fun hA => zn (hA k (by omega)))]; rfl, rfl⟩

set_option maxRecDepth 100000 in
set_option maxHeartbeats 4000000 in
theorem c_S_explain (w : vWd) (a sr : Nat → Nat) (Q : SP) (hQ : okQ Q) (x y z : Nat) (hx : x < 31) (hy : y < 31) (hz : z < 31) : Ct w mX6_explain 0 0 0 [.ref (a 0), .int (nI x), .int (nI y), .int (nI z)] (cQ w a sr Q) (qE (some (.int (bi (sEx Q x y z)))) (cQ w a sr Q)) := by
  refine Ct.of (L := [(0, .ref (a 0)), (1, .int (nI x)), (2, .int (nI y)), (3, .int (nI z))]) (by decide) rfl rfl ?_
  refine V_iconst 0 dX6_explain_0 (by decide) ?_
  refine V_istore dX6_explain_1 rfl (L' := [(0, .ref (a 0)), (1, .int (nI x)), (2, .int (nI y)), (3, .int (nI z)), (4, .int 0)]) rfl ?_
  exact lp_S_explain w a sr Q hQ x y z hx hy hz (Q.2.1 + 1) 0 (by omega) (by omega) (fun i hi => absurd hi (by omega))

set_option maxRecDepth 100000 in
set_option maxHeartbeats 4000000 in
theorem c_S_bitOf (w : vWd) (a sr : Nat → Nat) (Q : SP) (hQ : okQ Q) (x : Nat) (hx : x < 30) : Ct w mX6_bitOf 0 0 0 [.ref (a 0), .int (nI x)] (cQ w a sr Q) (qE (some (.int (sBit Q x))) (cQ w a sr Q)) := by
  refine Ct.of (L := [(0, .ref (a 0)), (1, .int (nI x))]) (by decide) rfl rfl ?_
  refine V_iconst 1 dX6_bitOf_0 (by decide) ?_
  refine V_aload_n dX6_bitOf_1 0 rfl ?_
  refine V_get dX6_bitOf_2 fX6_9 0 rfl rfl ?_
  refine V_iload_n dX6_bitOf_5 1 rfl ?_
  refine V_iald dX6_bitOf_6 1 rfl rfl x rfl (by omega) ?_
  refine V_ishl dX6_bitOf_7 ?_
  exact V_iret dX6_bitOf_8 rfl (nb rfl) (nb rfl) ⟨rfl, rfl⟩
