/-! 27: CashDeriver$Reader: tokens -/
/-- token, its place, the place behind it, its value; amount; kind and place of the fault -/
abbrev RP : Type := Nat × Nat × Nat × Int32 × Int32 × Nat × Nat
def rC (r t : Nat) (P : RP) : Nat × va_E := (r, .inr (4, [.ref t, .int (nI P.1), .int (nI P.2.1), .int (nI P.2.2.1), .int P.2.2.2.1, .int P.2.2.2.2.1, .int (nI P.2.2.2.2.2.1), .int (nI P.2.2.2.2.2.2)]))
def cR (w : vWd) (r : Nat) (t : Nat → Nat) (P : RP) (T : TP) : va_W := rC r (t 0) P :: cT w t T
theorem cR_perm {w : vWd} {r : Nat} {t : Nat → Nat} {P : RP} {T : TP} : (cR w r t P T).Perm (cT w t T ++ [rC r (t 0) P]) := (List.perm_append_singleton _ _).symm
theorem imin_nI {a b : Nat} (ha : a < 2147483648) (hb : b < 2147483648) : imin (nI a) (nI b) = nI (min a b) := by
  unfold imin
  have h : (nI b < nI a) = (b < a) := propext (nI_ltI hb ha)
  simp only [h]
  by_cases c : b < a
  · rw [if_pos c, Nat.min_eq_right (by omega)]
  · rw [if_neg c, Nat.min_eq_left (by omega)]
def lcB (x : Int32) : Bool := !decide (x < 97) && !decide (122 < x)
def dcB (x : Int32) : Bool := !decide (x < 48) && !decide (57 < x)
/-- a run of letters and digits: how many letters, how many digits, the value -/
def rv (T : TP) : Nat → Nat → Nat → Nat → Int32 → Nat × Nat × Int32
  | 0, _, l, d, v => (l, d, v)
  | m + 1, p, l, d, v => if lcB (T.2 p) = true then rv T m (p + 1) (l + 1) d v else if dcB (T.2 p) = true then rv T m (p + 1) l (d + 1) (if d + 1 ≤ 5 then 10 * v + T.2 p - 48 else v) else (l, d, v)
def srE (P : RP) (x : Nat × Nat × Int32) : RP := (if x.2.1 = 0 ∧ 0 < x.1 then 2 else if x.1 = 0 ∧ 0 < x.2.1 ∧ x.2.1 ≤ 5 then 3 else 1, P.2.1, P.2.1 + max (x.1 + x.2.1) 1, x.2.2, P.2.2.2.2)
def sk (T : TP) : Nat → Nat → Nat
  | 0, q => q
  | m + 1, q => if T.2 q = 32 ∨ T.2 q = 10 then sk T m (q + 1) else q
def stE (T : TP) (P : RP) (q : Nat) : RP := if q < min T.1 600 then (if T.2 q = 59 then (4, q, q + 1, P.2.2.2) else if T.2 q = 45 then (5, q, q + 1, P.2.2.2) else srE (P.1, q, q + 1, P.2.2.2) (rv T (T.1 - q) q 0 0 0)) else (0, min T.1 600, min T.1 600, P.2.2.2)
def stR (T : TP) (P : RP) : RP := stE T P (sk T (min T.1 600 - P.2.2.1) P.2.2.1)

set_option maxRecDepth 100000 in
set_option maxHeartbeats 4000000 in
theorem lp_R_run (w : vWd) (r : Nat) (t : Nat → Nat) (P : RP) (T : TP) (hT : T.1 ≤ 640) : ∀ (m : Nat) (p l d : Nat) (v : Int32), (T.1 - p + 1 ≤ m) → (p ≤ T.1) → (l + d ≤ p) → V w mX4_stepOverRun (vc w 1 0 0 (qE none (cR w r t (srE P (rv T (T.1 - p) p l d v)) T))) 0 0 14 [(0, .ref (r)), (1, .int (nI l)), (2, .int (nI d)), (3, .int (nI p))] [] (cR w r t (P.1, P.2.1, P.2.2.1, v, P.2.2.2.2.1, P.2.2.2.2.2.1, P.2.2.2.2.2.2) T) := by
  intro m
  induction m with
  | zero =>
    intro p l d v h1 hp hld
    exact absurd h1 (by omega)
  | succ m ih =>
    intro p l d v h1 hp hld
    refine V_iload_n dX4_stepOverRun_14 3 rfl ?_
    refine V_aload_n dX4_stepOverRun_15 0 rfl ?_
    refine V_get dX4_stepOverRun_16 fX4_33 0 rfl rfl ?_
    refine V_partR dX4_stepOverRun_19 lX4_60 [rC r (t 0) (P.1, P.2.1, P.2.2.1, v, P.2.2.2.2.1, P.2.2.2.2.2.1, P.2.2.2.2.2.2)] (c_T_size w t T) cR_perm rfl rfl 0 rfl rfl rfl rfl ?_
    refine V_icmp_ge_n p T.1 107 dX4_stepOverRun_22 (by decide) (by omega) (by omega) (fun zc1 => ?_) (fun zc1 => ?_)
    · have hx : rv T (T.1 - p) p l d v = (l, d, v) := by
        first
        | (rw [show T.1 - p = 0 by omega]; rfl)
        | (rw [show T.1 - p = T.1 - (p + 1) + 1 by omega, rv, if_neg (by grind [lcB]), if_neg (by grind [dcB])])
      rw [hx]
      refine V_aload_n dX4_stepOverRun_107 0 rfl ?_
      refine V_aload_n dX4_stepOverRun_108 0 rfl ?_
      refine V_get dX4_stepOverRun_109 fX4_15 0 rfl rfl ?_
      refine V_iload_n dX4_stepOverRun_112 1 rfl ?_
      refine V_iload_n dX4_stepOverRun_113 2 rfl ?_
      refine V_iadd dX4_stepOverRun_114 ?_
      refine V_casti (y := nI (l + d)) (nI_add l d) ?_
      refine V_iconst 1 dX4_stepOverRun_115 (by decide) ?_
      refine V_mmax dX4_stepOverRun_116 lX4_143 rfl ?_
      refine V_casti (y := nI (max (l + d) 1)) (imax_nI (b := 1) (by omega) (by omega)) ?_
      refine V_iadd dX4_stepOverRun_119 ?_
      refine V_casti (y := nI (P.2.1 + (max (l + d) 1))) (nI_add P.2.1 (max (l + d) 1)) ?_
      refine V_put dX4_stepOverRun_120 pX4_18 0 rfl rfl rfl rfl (ws' := cR w r t (P.1, P.2.1, P.2.1 + (max (l + d) 1), v, P.2.2.2.2.1, P.2.2.2.2.2.1, P.2.2.2.2.2.2) T) rfl ?_
      refine V_aload_n dX4_stepOverRun_123 0 rfl ?_
      refine V_iconst 1 dX4_stepOverRun_124 (by decide) ?_
      refine V_put dX4_stepOverRun_125 pX4_11 0 rfl rfl rfl rfl (ws' := cR w r t (1, P.2.1, P.2.1 + (max (l + d) 1), v, P.2.2.2.2.1, P.2.2.2.2.2.1, P.2.2.2.2.2.2) T) rfl ?_
      refine V_iload_n dX4_stepOverRun_128 2 rfl ?_
      refine V_if_ne_n d 144 dX4_stepOverRun_129 (by decide) (by omega) (fun zc2 => ?_) (fun zc2 => ?_)
      · refine V_iload_n dX4_stepOverRun_144 1 rfl ?_
        refine V_if_ne_n l 162 dX4_stepOverRun_145 (by decide) (by omega) (fun zc3 => ?_) (fun zc3 => ?_)
        · refine V_vret dX4_stepOverRun_162 rfl (nb rfl) (nb rfl) ?_
          have hr : srE P (l, d, v) = (1, P.2.1, P.2.1 + (max (l + d) 1), v, P.2.2.2.2.1, P.2.2.2.2.2.1, P.2.2.2.2.2.2) := by simp only [srE]; grind
          exact ⟨rfl, by rw [hr]⟩
        · refine V_iload_n dX4_stepOverRun_148 2 rfl ?_
          refine V_if_le_n d 162 dX4_stepOverRun_149 (by decide) (by omega) (fun zc4 => ?_) (fun zc4 => ?_)
          · refine V_vret dX4_stepOverRun_162 rfl (nb rfl) (nb rfl) ?_
            have hr : srE P (l, d, v) = (1, P.2.1, P.2.1 + (max (l + d) 1), v, P.2.2.2.2.1, P.2.2.2.2.2.1, P.2.2.2.2.2.2) := by simp only [srE]; grind
            exact ⟨rfl, by rw [hr]⟩
          · refine V_iload_n dX4_stepOverRun_152 2 rfl ?_
            refine V_iconst 5 dX4_stepOverRun_153 (by decide) ?_
            refine V_icmp_gt_n d 5 162 dX4_stepOverRun_154 (by decide) (by omega) (by omega) (fun zc5 => ?_) (fun zc5 => ?_)
            · refine V_vret dX4_stepOverRun_162 rfl (nb rfl) (nb rfl) ?_
              have hr : srE P (l, d, v) = (1, P.2.1, P.2.1 + (max (l + d) 1), v, P.2.2.2.2.1, P.2.2.2.2.2.1, P.2.2.2.2.2.2) := by simp only [srE]; grind
              exact ⟨rfl, by rw [hr]⟩
            · refine V_aload_n dX4_stepOverRun_157 0 rfl ?_
              refine V_iconst 3 dX4_stepOverRun_158 (by decide) ?_
              refine V_put dX4_stepOverRun_159 pX4_11 0 rfl rfl rfl rfl (ws' := cR w r t (3, P.2.1, P.2.1 + (max (l + d) 1), v, P.2.2.2.2.1, P.2.2.2.2.2.1, P.2.2.2.2.2.2) T) rfl ?_
              refine V_vret dX4_stepOverRun_162 rfl (nb rfl) (nb rfl) ?_
              have hr : srE P (l, d, v) = (3, P.2.1, P.2.1 + (max (l + d) 1), v, P.2.2.2.2.1, P.2.2.2.2.2.1, P.2.2.2.2.2.2) := by simp only [srE]; grind
              exact ⟨rfl, by rw [hr]⟩
      · refine V_iload_n dX4_stepOverRun_132 1 rfl ?_
        refine V_if_le_n l 144 dX4_stepOverRun_133 (by decide) (by omega) (fun zc6 => ?_) (fun zc6 => ?_)
        · refine V_iload_n dX4_stepOverRun_144 1 rfl ?_
          refine V_if_ne_n l 162 dX4_stepOverRun_145 (by decide) (by omega) (fun zc7 => ?_) (fun zc7 => ?_)
          · refine V_vret dX4_stepOverRun_162 rfl (nb rfl) (nb rfl) ?_
            have hr : srE P (l, d, v) = (1, P.2.1, P.2.1 + (max (l + d) 1), v, P.2.2.2.2.1, P.2.2.2.2.2.1, P.2.2.2.2.2.2) := by simp only [srE]; grind
            exact ⟨rfl, by rw [hr]⟩
          · refine V_iload_n dX4_stepOverRun_148 2 rfl ?_
            refine V_if_le_n d 162 dX4_stepOverRun_149 (by decide) (by omega) (fun zc8 => ?_) (fun zc8 => ?_)
            · refine V_vret dX4_stepOverRun_162 rfl (nb rfl) (nb rfl) ?_
              have hr : srE P (l, d, v) = (1, P.2.1, P.2.1 + (max (l + d) 1), v, P.2.2.2.2.1, P.2.2.2.2.2.1, P.2.2.2.2.2.2) := by simp only [srE]; grind
              exact ⟨rfl, by rw [hr]⟩
            · refine V_iload_n dX4_stepOverRun_152 2 rfl ?_
              refine V_iconst 5 dX4_stepOverRun_153 (by decide) ?_
              refine V_icmp_gt_n d 5 162 dX4_stepOverRun_154 (by decide) (by omega) (by omega) (fun zc9 => ?_) (fun zc9 => ?_)
              · refine V_vret dX4_stepOverRun_162 rfl (nb rfl) (nb rfl) ?_
                have hr : srE P (l, d, v) = (1, P.2.1, P.2.1 + (max (l + d) 1), v, P.2.2.2.2.1, P.2.2.2.2.2.1, P.2.2.2.2.2.2) := by simp only [srE]; grind
                exact ⟨rfl, by rw [hr]⟩
              · refine V_aload_n dX4_stepOverRun_157 0 rfl ?_
                refine V_iconst 3 dX4_stepOverRun_158 (by decide) ?_
                refine V_put dX4_stepOverRun_159 pX4_11 0 rfl rfl rfl rfl (ws' := cR w r t (3, P.2.1, P.2.1 + (max (l + d) 1), v, P.2.2.2.2.1, P.2.2.2.2.2.1, P.2.2.2.2.2.2) T) rfl ?_
                refine V_vret dX4_stepOverRun_162 rfl (nb rfl) (nb rfl) ?_
                have hr : srE P (l, d, v) = (3, P.2.1, P.2.1 + (max (l + d) 1), v, P.2.2.2.2.1, P.2.2.2.2.2.1, P.2.2.2.2.2.2) := by simp only [srE]; grind
                exact ⟨rfl, by rw [hr]⟩
        · refine V_aload_n dX4_stepOverRun_136 0 rfl ?_
          refine V_iconst 2 dX4_stepOverRun_137 (by decide) ?_
          refine V_put dX4_stepOverRun_138 pX4_11 0 rfl rfl rfl rfl (ws' := cR w r t (2, P.2.1, P.2.1 + (max (l + d) 1), v, P.2.2.2.2.1, P.2.2.2.2.2.1, P.2.2.2.2.2.2) T) rfl ?_
          refine V_goto 162 dX4_stepOverRun_141 (by decide) ?_
          refine V_vret dX4_stepOverRun_162 rfl (nb rfl) (nb rfl) ?_
          have hr : srE P (l, d, v) = (2, P.2.1, P.2.1 + (max (l + d) 1), v, P.2.2.2.2.1, P.2.2.2.2.2.1, P.2.2.2.2.2.2) := by simp only [srE]; grind
          exact ⟨rfl, by rw [hr]⟩
    · refine V_aload_n dX4_stepOverRun_25 0 rfl ?_
      refine V_get dX4_stepOverRun_26 fX4_33 0 rfl rfl ?_
      refine V_iload_n dX4_stepOverRun_29 3 rfl ?_
      refine V_partR dX4_stepOverRun_30 lX4_126 [rC r (t 0) (P.1, P.2.1, P.2.2.1, v, P.2.2.2.2.1, P.2.2.2.2.2.1, P.2.2.2.2.2.2)] (c_T_signAt w t T (nI p) hT) cR_perm rfl rfl 0 rfl rfl rfl rfl ?_
      refine V_casti (y := T.2 p) (by rw [tSign_n hT (by omega), if_pos (by omega)]) ?_
      refine V_istore dX4_stepOverRun_33 rfl (L' := [(0, .ref (r)), (1, .int (nI l)), (2, .int (nI d)), (3, .int (nI p)), (4, .int (T.2 p))]) rfl ?_
      refine V_iload dX4_stepOverRun_35 4 rfl ?_
      refine V_bipush 97 dX4_stepOverRun_37 (by decide) ?_
      refine V_icmp_lt 55 dX4_stepOverRun_39 (by decide) (fun zc10 => ?_) (fun zc10 => ?_)
      · refine V_iload dX4_stepOverRun_55 4 rfl ?_
        refine V_bipush 48 dX4_stepOverRun_57 (by decide) ?_
        refine V_icmp_lt 107 dX4_stepOverRun_59 (by decide) (fun zc11 => ?_) (fun zc11 => ?_)
        · have hx : rv T (T.1 - p) p l d v = (l, d, v) := by
            first
            | (rw [show T.1 - p = 0 by omega]; rfl)
            | (rw [show T.1 - p = T.1 - (p + 1) + 1 by omega, rv, if_neg (by grind [lcB]), if_neg (by grind [dcB])])
          rw [hx]
          refine V_aload_n dX4_stepOverRun_107 0 rfl ?_
          refine V_aload_n dX4_stepOverRun_108 0 rfl ?_
          refine V_get dX4_stepOverRun_109 fX4_15 0 rfl rfl ?_
          refine V_iload_n dX4_stepOverRun_112 1 rfl ?_
          refine V_iload_n dX4_stepOverRun_113 2 rfl ?_
          refine V_iadd dX4_stepOverRun_114 ?_
          refine V_casti (y := nI (l + d)) (nI_add l d) ?_
          refine V_iconst 1 dX4_stepOverRun_115 (by decide) ?_
          refine V_mmax dX4_stepOverRun_116 lX4_143 rfl ?_
          refine V_casti (y := nI (max (l + d) 1)) (imax_nI (b := 1) (by omega) (by omega)) ?_
          refine V_iadd dX4_stepOverRun_119 ?_
          refine V_casti (y := nI (P.2.1 + (max (l + d) 1))) (nI_add P.2.1 (max (l + d) 1)) ?_
          refine V_put dX4_stepOverRun_120 pX4_18 0 rfl rfl rfl rfl (ws' := cR w r t (P.1, P.2.1, P.2.1 + (max (l + d) 1), v, P.2.2.2.2.1, P.2.2.2.2.2.1, P.2.2.2.2.2.2) T) rfl ?_
          refine V_aload_n dX4_stepOverRun_123 0 rfl ?_
          refine V_iconst 1 dX4_stepOverRun_124 (by decide) ?_
          refine V_put dX4_stepOverRun_125 pX4_11 0 rfl rfl rfl rfl (ws' := cR w r t (1, P.2.1, P.2.1 + (max (l + d) 1), v, P.2.2.2.2.1, P.2.2.2.2.2.1, P.2.2.2.2.2.2) T) rfl ?_
          refine V_iload_n dX4_stepOverRun_128 2 rfl ?_
          refine V_if_ne_n d 144 dX4_stepOverRun_129 (by decide) (by omega) (fun zc12 => ?_) (fun zc12 => ?_)
          · refine V_iload_n dX4_stepOverRun_144 1 rfl ?_
            refine V_if_ne_n l 162 dX4_stepOverRun_145 (by decide) (by omega) (fun zc13 => ?_) (fun zc13 => ?_)
            · refine V_vret dX4_stepOverRun_162 rfl (nb rfl) (nb rfl) ?_
              have hr : srE P (l, d, v) = (1, P.2.1, P.2.1 + (max (l + d) 1), v, P.2.2.2.2.1, P.2.2.2.2.2.1, P.2.2.2.2.2.2) := by simp only [srE]; grind
              exact ⟨rfl, by rw [hr]⟩
            · refine V_iload_n dX4_stepOverRun_148 2 rfl ?_
              refine V_if_le_n d 162 dX4_stepOverRun_149 (by decide) (by omega) (fun zc14 => ?_) (fun zc14 => ?_)
              · refine V_vret dX4_stepOverRun_162 rfl (nb rfl) (nb rfl) ?_
                have hr : srE P (l, d, v) = (1, P.2.1, P.2.1 + (max (l + d) 1), v, P.2.2.2.2.1, P.2.2.2.2.2.1, P.2.2.2.2.2.2) := by simp only [srE]; grind
                exact ⟨rfl, by rw [hr]⟩
              · refine V_iload_n dX4_stepOverRun_152 2 rfl ?_
                refine V_iconst 5 dX4_stepOverRun_153 (by decide) ?_
                refine V_icmp_gt_n d 5 162 dX4_stepOverRun_154 (by decide) (by omega) (by omega) (fun zc15 => ?_) (fun zc15 => ?_)
                · refine V_vret dX4_stepOverRun_162 rfl (nb rfl) (nb rfl) ?_
                  have hr : srE P (l, d, v) = (1, P.2.1, P.2.1 + (max (l + d) 1), v, P.2.2.2.2.1, P.2.2.2.2.2.1, P.2.2.2.2.2.2) := by simp only [srE]; grind
                  exact ⟨rfl, by rw [hr]⟩
                · refine V_aload_n dX4_stepOverRun_157 0 rfl ?_
                  refine V_iconst 3 dX4_stepOverRun_158 (by decide) ?_
                  refine V_put dX4_stepOverRun_159 pX4_11 0 rfl rfl rfl rfl (ws' := cR w r t (3, P.2.1, P.2.1 + (max (l + d) 1), v, P.2.2.2.2.1, P.2.2.2.2.2.1, P.2.2.2.2.2.2) T) rfl ?_
                  refine V_vret dX4_stepOverRun_162 rfl (nb rfl) (nb rfl) ?_
                  have hr : srE P (l, d, v) = (3, P.2.1, P.2.1 + (max (l + d) 1), v, P.2.2.2.2.1, P.2.2.2.2.2.1, P.2.2.2.2.2.2) := by simp only [srE]; grind
                  exact ⟨rfl, by rw [hr]⟩
          · refine V_iload_n dX4_stepOverRun_132 1 rfl ?_
            refine V_if_le_n l 144 dX4_stepOverRun_133 (by decide) (by omega) (fun zc16 => ?_) (fun zc16 => ?_)
            · refine V_iload_n dX4_stepOverRun_144 1 rfl ?_
              refine V_if_ne_n l 162 dX4_stepOverRun_145 (by decide) (by omega) (fun zc17 => ?_) (fun zc17 => ?_)
              · refine V_vret dX4_stepOverRun_162 rfl (nb rfl) (nb rfl) ?_
                have hr : srE P (l, d, v) = (1, P.2.1, P.2.1 + (max (l + d) 1), v, P.2.2.2.2.1, P.2.2.2.2.2.1, P.2.2.2.2.2.2) := by simp only [srE]; grind
                exact ⟨rfl, by rw [hr]⟩
              · refine V_iload_n dX4_stepOverRun_148 2 rfl ?_
                refine V_if_le_n d 162 dX4_stepOverRun_149 (by decide) (by omega) (fun zc18 => ?_) (fun zc18 => ?_)
                · refine V_vret dX4_stepOverRun_162 rfl (nb rfl) (nb rfl) ?_
                  have hr : srE P (l, d, v) = (1, P.2.1, P.2.1 + (max (l + d) 1), v, P.2.2.2.2.1, P.2.2.2.2.2.1, P.2.2.2.2.2.2) := by simp only [srE]; grind
                  exact ⟨rfl, by rw [hr]⟩
                · refine V_iload_n dX4_stepOverRun_152 2 rfl ?_
                  refine V_iconst 5 dX4_stepOverRun_153 (by decide) ?_
                  refine V_icmp_gt_n d 5 162 dX4_stepOverRun_154 (by decide) (by omega) (by omega) (fun zc19 => ?_) (fun zc19 => ?_)
                  · refine V_vret dX4_stepOverRun_162 rfl (nb rfl) (nb rfl) ?_
                    have hr : srE P (l, d, v) = (1, P.2.1, P.2.1 + (max (l + d) 1), v, P.2.2.2.2.1, P.2.2.2.2.2.1, P.2.2.2.2.2.2) := by simp only [srE]; grind
                    exact ⟨rfl, by rw [hr]⟩
                  · refine V_aload_n dX4_stepOverRun_157 0 rfl ?_
                    refine V_iconst 3 dX4_stepOverRun_158 (by decide) ?_
                    refine V_put dX4_stepOverRun_159 pX4_11 0 rfl rfl rfl rfl (ws' := cR w r t (3, P.2.1, P.2.1 + (max (l + d) 1), v, P.2.2.2.2.1, P.2.2.2.2.2.1, P.2.2.2.2.2.2) T) rfl ?_
                    refine V_vret dX4_stepOverRun_162 rfl (nb rfl) (nb rfl) ?_
                    have hr : srE P (l, d, v) = (3, P.2.1, P.2.1 + (max (l + d) 1), v, P.2.2.2.2.1, P.2.2.2.2.2.1, P.2.2.2.2.2.2) := by simp only [srE]; grind
                    exact ⟨rfl, by rw [hr]⟩
            · refine V_aload_n dX4_stepOverRun_136 0 rfl ?_
              refine V_iconst 2 dX4_stepOverRun_137 (by decide) ?_
              refine V_put dX4_stepOverRun_138 pX4_11 0 rfl rfl rfl rfl (ws' := cR w r t (2, P.2.1, P.2.1 + (max (l + d) 1), v, P.2.2.2.2.1, P.2.2.2.2.2.1, P.2.2.2.2.2.2) T) rfl ?_
              refine V_goto 162 dX4_stepOverRun_141 (by decide) ?_
              refine V_vret dX4_stepOverRun_162 rfl (nb rfl) (nb rfl) ?_
              have hr : srE P (l, d, v) = (2, P.2.1, P.2.1 + (max (l + d) 1), v, P.2.2.2.2.1, P.2.2.2.2.2.1, P.2.2.2.2.2.2) := by simp only [srE]; grind
              exact ⟨rfl, by rw [hr]⟩
        · refine V_iload dX4_stepOverRun_62 4 rfl ?_
          refine V_bipush 57 dX4_stepOverRun_64 (by decide) ?_
          refine V_icmp_gt 107 dX4_stepOverRun_66 (by decide) (fun zc20 => ?_) (fun zc20 => ?_)
          · have hx : rv T (T.1 - p) p l d v = (l, d, v) := by
              first
              | (rw [show T.1 - p = 0 by omega]; rfl)
              | (rw [show T.1 - p = T.1 - (p + 1) + 1 by omega, rv, if_neg (by grind [lcB]), if_neg (by grind [dcB])])
            rw [hx]
            refine V_aload_n dX4_stepOverRun_107 0 rfl ?_
            refine V_aload_n dX4_stepOverRun_108 0 rfl ?_
            refine V_get dX4_stepOverRun_109 fX4_15 0 rfl rfl ?_
            refine V_iload_n dX4_stepOverRun_112 1 rfl ?_
            refine V_iload_n dX4_stepOverRun_113 2 rfl ?_
            refine V_iadd dX4_stepOverRun_114 ?_
            refine V_casti (y := nI (l + d)) (nI_add l d) ?_
            refine V_iconst 1 dX4_stepOverRun_115 (by decide) ?_
            refine V_mmax dX4_stepOverRun_116 lX4_143 rfl ?_
            refine V_casti (y := nI (max (l + d) 1)) (imax_nI (b := 1) (by omega) (by omega)) ?_
            refine V_iadd dX4_stepOverRun_119 ?_
            refine V_casti (y := nI (P.2.1 + (max (l + d) 1))) (nI_add P.2.1 (max (l + d) 1)) ?_
            refine V_put dX4_stepOverRun_120 pX4_18 0 rfl rfl rfl rfl (ws' := cR w r t (P.1, P.2.1, P.2.1 + (max (l + d) 1), v, P.2.2.2.2.1, P.2.2.2.2.2.1, P.2.2.2.2.2.2) T) rfl ?_
            refine V_aload_n dX4_stepOverRun_123 0 rfl ?_
            refine V_iconst 1 dX4_stepOverRun_124 (by decide) ?_
            refine V_put dX4_stepOverRun_125 pX4_11 0 rfl rfl rfl rfl (ws' := cR w r t (1, P.2.1, P.2.1 + (max (l + d) 1), v, P.2.2.2.2.1, P.2.2.2.2.2.1, P.2.2.2.2.2.2) T) rfl ?_
            refine V_iload_n dX4_stepOverRun_128 2 rfl ?_
            refine V_if_ne_n d 144 dX4_stepOverRun_129 (by decide) (by omega) (fun zc21 => ?_) (fun zc21 => ?_)
            · refine V_iload_n dX4_stepOverRun_144 1 rfl ?_
              refine V_if_ne_n l 162 dX4_stepOverRun_145 (by decide) (by omega) (fun zc22 => ?_) (fun zc22 => ?_)
              · refine V_vret dX4_stepOverRun_162 rfl (nb rfl) (nb rfl) ?_
                have hr : srE P (l, d, v) = (1, P.2.1, P.2.1 + (max (l + d) 1), v, P.2.2.2.2.1, P.2.2.2.2.2.1, P.2.2.2.2.2.2) := by simp only [srE]; grind
                exact ⟨rfl, by rw [hr]⟩
              · refine V_iload_n dX4_stepOverRun_148 2 rfl ?_
                refine V_if_le_n d 162 dX4_stepOverRun_149 (by decide) (by omega) (fun zc23 => ?_) (fun zc23 => ?_)
                · refine V_vret dX4_stepOverRun_162 rfl (nb rfl) (nb rfl) ?_
                  have hr : srE P (l, d, v) = (1, P.2.1, P.2.1 + (max (l + d) 1), v, P.2.2.2.2.1, P.2.2.2.2.2.1, P.2.2.2.2.2.2) := by simp only [srE]; grind
                  exact ⟨rfl, by rw [hr]⟩
                · refine V_iload_n dX4_stepOverRun_152 2 rfl ?_
                  refine V_iconst 5 dX4_stepOverRun_153 (by decide) ?_
                  refine V_icmp_gt_n d 5 162 dX4_stepOverRun_154 (by decide) (by omega) (by omega) (fun zc24 => ?_) (fun zc24 => ?_)
                  · refine V_vret dX4_stepOverRun_162 rfl (nb rfl) (nb rfl) ?_
                    have hr : srE P (l, d, v) = (1, P.2.1, P.2.1 + (max (l + d) 1), v, P.2.2.2.2.1, P.2.2.2.2.2.1, P.2.2.2.2.2.2) := by simp only [srE]; grind
                    exact ⟨rfl, by rw [hr]⟩
                  · refine V_aload_n dX4_stepOverRun_157 0 rfl ?_
                    refine V_iconst 3 dX4_stepOverRun_158 (by decide) ?_
                    refine V_put dX4_stepOverRun_159 pX4_11 0 rfl rfl rfl rfl (ws' := cR w r t (3, P.2.1, P.2.1 + (max (l + d) 1), v, P.2.2.2.2.1, P.2.2.2.2.2.1, P.2.2.2.2.2.2) T) rfl ?_
                    refine V_vret dX4_stepOverRun_162 rfl (nb rfl) (nb rfl) ?_
                    have hr : srE P (l, d, v) = (3, P.2.1, P.2.1 + (max (l + d) 1), v, P.2.2.2.2.1, P.2.2.2.2.2.1, P.2.2.2.2.2.2) := by simp only [srE]; grind
                    exact ⟨rfl, by rw [hr]⟩
            · refine V_iload_n dX4_stepOverRun_132 1 rfl ?_
              refine V_if_le_n l 144 dX4_stepOverRun_133 (by decide) (by omega) (fun zc25 => ?_) (fun zc25 => ?_)
              · refine V_iload_n dX4_stepOverRun_144 1 rfl ?_
                refine V_if_ne_n l 162 dX4_stepOverRun_145 (by decide) (by omega) (fun zc26 => ?_) (fun zc26 => ?_)
                · refine V_vret dX4_stepOverRun_162 rfl (nb rfl) (nb rfl) ?_
                  have hr : srE P (l, d, v) = (1, P.2.1, P.2.1 + (max (l + d) 1), v, P.2.2.2.2.1, P.2.2.2.2.2.1, P.2.2.2.2.2.2) := by simp only [srE]; grind
                  exact ⟨rfl, by rw [hr]⟩
                · refine V_iload_n dX4_stepOverRun_148 2 rfl ?_
                  refine V_if_le_n d 162 dX4_stepOverRun_149 (by decide) (by omega) (fun zc27 => ?_) (fun zc27 => ?_)
                  · refine V_vret dX4_stepOverRun_162 rfl (nb rfl) (nb rfl) ?_
                    have hr : srE P (l, d, v) = (1, P.2.1, P.2.1 + (max (l + d) 1), v, P.2.2.2.2.1, P.2.2.2.2.2.1, P.2.2.2.2.2.2) := by simp only [srE]; grind
                    exact ⟨rfl, by rw [hr]⟩
                  · refine V_iload_n dX4_stepOverRun_152 2 rfl ?_
                    refine V_iconst 5 dX4_stepOverRun_153 (by decide) ?_
                    refine V_icmp_gt_n d 5 162 dX4_stepOverRun_154 (by decide) (by omega) (by omega) (fun zc28 => ?_) (fun zc28 => ?_)
                    · refine V_vret dX4_stepOverRun_162 rfl (nb rfl) (nb rfl) ?_
                      have hr : srE P (l, d, v) = (1, P.2.1, P.2.1 + (max (l + d) 1), v, P.2.2.2.2.1, P.2.2.2.2.2.1, P.2.2.2.2.2.2) := by simp only [srE]; grind
                      exact ⟨rfl, by rw [hr]⟩
                    · refine V_aload_n dX4_stepOverRun_157 0 rfl ?_
                      refine V_iconst 3 dX4_stepOverRun_158 (by decide) ?_
                      refine V_put dX4_stepOverRun_159 pX4_11 0 rfl rfl rfl rfl (ws' := cR w r t (3, P.2.1, P.2.1 + (max (l + d) 1), v, P.2.2.2.2.1, P.2.2.2.2.2.1, P.2.2.2.2.2.2) T) rfl ?_
                      refine V_vret dX4_stepOverRun_162 rfl (nb rfl) (nb rfl) ?_
                      have hr : srE P (l, d, v) = (3, P.2.1, P.2.1 + (max (l + d) 1), v, P.2.2.2.2.1, P.2.2.2.2.2.1, P.2.2.2.2.2.2) := by simp only [srE]; grind
                      exact ⟨rfl, by rw [hr]⟩
              · refine V_aload_n dX4_stepOverRun_136 0 rfl ?_
                refine V_iconst 2 dX4_stepOverRun_137 (by decide) ?_
                refine V_put dX4_stepOverRun_138 pX4_11 0 rfl rfl rfl rfl (ws' := cR w r t (2, P.2.1, P.2.1 + (max (l + d) 1), v, P.2.2.2.2.1, P.2.2.2.2.2.1, P.2.2.2.2.2.2) T) rfl ?_
                refine V_goto 162 dX4_stepOverRun_141 (by decide) ?_
                refine V_vret dX4_stepOverRun_162 rfl (nb rfl) (nb rfl) ?_
                have hr : srE P (l, d, v) = (2, P.2.1, P.2.1 + (max (l + d) 1), v, P.2.2.2.2.1, P.2.2.2.2.2.1, P.2.2.2.2.2.2) := by simp only [srE]; grind
                exact ⟨rfl, by rw [hr]⟩
          · refine V_iinc (nI (d + 1)) dX4_stepOverRun_69 2 rfl (nI_i1 d) rfl (L' := [(0, .ref (r)), (1, .int (nI l)), (2, .int (nI (d + 1))), (3, .int (nI p)), (4, .int (T.2 p))]) rfl ?_
            refine V_aload_n dX4_stepOverRun_72 0 rfl ?_
            refine V_iload_n dX4_stepOverRun_73 2 rfl ?_
            refine V_iconst 5 dX4_stepOverRun_74 (by decide) ?_
            refine V_icmp_gt_n (d + 1) 5 94 dX4_stepOverRun_75 (by decide) (by omega) (by omega) (fun zc29 => ?_) (fun zc29 => ?_)
            · refine V_aload_n dX4_stepOverRun_94 0 rfl ?_
              refine V_get dX4_stepOverRun_95 fX4_21 0 rfl rfl ?_
              refine V_put dX4_stepOverRun_98 pX4_21 0 rfl rfl rfl rfl (ws' := cR w r t (P.1, P.2.1, P.2.2.1, v, P.2.2.2.2.1, P.2.2.2.2.2.1, P.2.2.2.2.2.2) T) rfl ?_
              refine V_iinc (nI (p + 1)) dX4_stepOverRun_101 3 rfl (nI_i1 p) rfl (L' := [(0, .ref (r)), (1, .int (nI l)), (2, .int (nI (d + 1))), (3, .int (nI (p + 1))), (4, .int (T.2 p))]) rfl ?_
              refine V_goto 14 dX4_stepOverRun_104 (by decide) ?_
              refine V_dropL (L' := [(0, .ref (r)), (1, .int (nI l)), (2, .int (nI (d + 1))), (3, .int (nI (p + 1)))]) (L'' := [(4, .int (T.2 p))]) rfl ?_
              rw [show rv T (T.1 - p) p l d v = rv T (T.1 - (p + 1)) (p + 1) l (d + 1) v by
                rw [show T.1 - p = T.1 - (p + 1) + 1 by omega]
                first | (rw [rv, if_pos (by grind [lcB])]; done) | (rw [rv, if_neg (by grind [lcB]), if_pos (by grind [dcB]), if_pos (by omega)]; done) | (rw [rv, if_neg (by grind [lcB]), if_pos (by grind [dcB]), if_neg (by omega)]; done)]
              exact ih (p + 1) l (d + 1) v (by omega) (by omega) (by omega)
            · refine V_bipush 10 dX4_stepOverRun_78 (by decide) ?_
              refine V_aload_n dX4_stepOverRun_80 0 rfl ?_
              refine V_get dX4_stepOverRun_81 fX4_21 0 rfl rfl ?_
              refine V_imul dX4_stepOverRun_84 ?_
              refine V_iload dX4_stepOverRun_85 4 rfl ?_
              refine V_iadd dX4_stepOverRun_87 ?_
              refine V_bipush 48 dX4_stepOverRun_88 (by decide) ?_
              refine V_isub dX4_stepOverRun_90 ?_
              refine V_goto 98 dX4_stepOverRun_91 (by decide) ?_
              refine V_put dX4_stepOverRun_98 pX4_21 0 rfl rfl rfl rfl (ws' := cR w r t (P.1, P.2.1, P.2.2.1, ((10 * v) + (T.2 p)) - 48, P.2.2.2.2.1, P.2.2.2.2.2.1, P.2.2.2.2.2.2) T) rfl ?_
              refine V_iinc (nI (p + 1)) dX4_stepOverRun_101 3 rfl (nI_i1 p) rfl (L' := [(0, .ref (r)), (1, .int (nI l)), (2, .int (nI (d + 1))), (3, .int (nI (p + 1))), (4, .int (T.2 p))]) rfl ?_
              refine V_goto 14 dX4_stepOverRun_104 (by decide) ?_
              refine V_dropL (L' := [(0, .ref (r)), (1, .int (nI l)), (2, .int (nI (d + 1))), (3, .int (nI (p + 1)))]) (L'' := [(4, .int (T.2 p))]) rfl ?_
              rw [show rv T (T.1 - p) p l d v = rv T (T.1 - (p + 1)) (p + 1) l (d + 1) (((10 * v) + (T.2 p)) - 48) by
                rw [show T.1 - p = T.1 - (p + 1) + 1 by omega]
                first | (rw [rv, if_pos (by grind [lcB])]; done) | (rw [rv, if_neg (by grind [lcB]), if_pos (by grind [dcB]), if_pos (by omega)]; done) | (rw [rv, if_neg (by grind [lcB]), if_pos (by grind [dcB]), if_neg (by omega)]; done)]
              exact ih (p + 1) l (d + 1) (((10 * v) + (T.2 p)) - 48) (by omega) (by omega) (by omega)
      · refine V_iload dX4_stepOverRun_42 4 rfl ?_
        refine V_bipush 122 dX4_stepOverRun_44 (by decide) ?_
        refine V_icmp_gt 55 dX4_stepOverRun_46 (by decide) (fun zc30 => ?_) (fun zc30 => ?_)
        · refine V_iload dX4_stepOverRun_55 4 rfl ?_
          refine V_bipush 48 dX4_stepOverRun_57 (by decide) ?_
          refine V_icmp_lt 107 dX4_stepOverRun_59 (by decide) (fun zc31 => ?_) (fun zc31 => ?_)
          · have hx : rv T (T.1 - p) p l d v = (l, d, v) := by
              first
              | (rw [show T.1 - p = 0 by omega]; rfl)
              | (rw [show T.1 - p = T.1 - (p + 1) + 1 by omega, rv, if_neg (by grind [lcB]), if_neg (by grind [dcB])])
            rw [hx]
            refine V_aload_n dX4_stepOverRun_107 0 rfl ?_
            refine V_aload_n dX4_stepOverRun_108 0 rfl ?_
            refine V_get dX4_stepOverRun_109 fX4_15 0 rfl rfl ?_
            refine V_iload_n dX4_stepOverRun_112 1 rfl ?_
            refine V_iload_n dX4_stepOverRun_113 2 rfl ?_
            refine V_iadd dX4_stepOverRun_114 ?_
            refine V_casti (y := nI (l + d)) (nI_add l d) ?_
            refine V_iconst 1 dX4_stepOverRun_115 (by decide) ?_
            refine V_mmax dX4_stepOverRun_116 lX4_143 rfl ?_
            refine V_casti (y := nI (max (l + d) 1)) (imax_nI (b := 1) (by omega) (by omega)) ?_
            refine V_iadd dX4_stepOverRun_119 ?_
            refine V_casti (y := nI (P.2.1 + (max (l + d) 1))) (nI_add P.2.1 (max (l + d) 1)) ?_
            refine V_put dX4_stepOverRun_120 pX4_18 0 rfl rfl rfl rfl (ws' := cR w r t (P.1, P.2.1, P.2.1 + (max (l + d) 1), v, P.2.2.2.2.1, P.2.2.2.2.2.1, P.2.2.2.2.2.2) T) rfl ?_
            refine V_aload_n dX4_stepOverRun_123 0 rfl ?_
            refine V_iconst 1 dX4_stepOverRun_124 (by decide) ?_
            refine V_put dX4_stepOverRun_125 pX4_11 0 rfl rfl rfl rfl (ws' := cR w r t (1, P.2.1, P.2.1 + (max (l + d) 1), v, P.2.2.2.2.1, P.2.2.2.2.2.1, P.2.2.2.2.2.2) T) rfl ?_
            refine V_iload_n dX4_stepOverRun_128 2 rfl ?_
            refine V_if_ne_n d 144 dX4_stepOverRun_129 (by decide) (by omega) (fun zc32 => ?_) (fun zc32 => ?_)
            · refine V_iload_n dX4_stepOverRun_144 1 rfl ?_
              refine V_if_ne_n l 162 dX4_stepOverRun_145 (by decide) (by omega) (fun zc33 => ?_) (fun zc33 => ?_)
              · refine V_vret dX4_stepOverRun_162 rfl (nb rfl) (nb rfl) ?_
                have hr : srE P (l, d, v) = (1, P.2.1, P.2.1 + (max (l + d) 1), v, P.2.2.2.2.1, P.2.2.2.2.2.1, P.2.2.2.2.2.2) := by simp only [srE]; grind
                exact ⟨rfl, by rw [hr]⟩
              · refine V_iload_n dX4_stepOverRun_148 2 rfl ?_
                refine V_if_le_n d 162 dX4_stepOverRun_149 (by decide) (by omega) (fun zc34 => ?_) (fun zc34 => ?_)
                · refine V_vret dX4_stepOverRun_162 rfl (nb rfl) (nb rfl) ?_
                  have hr : srE P (l, d, v) = (1, P.2.1, P.2.1 + (max (l + d) 1), v, P.2.2.2.2.1, P.2.2.2.2.2.1, P.2.2.2.2.2.2) := by simp only [srE]; grind
                  exact ⟨rfl, by rw [hr]⟩
                · refine V_iload_n dX4_stepOverRun_152 2 rfl ?_
                  refine V_iconst 5 dX4_stepOverRun_153 (by decide) ?_
                  refine V_icmp_gt_n d 5 162 dX4_stepOverRun_154 (by decide) (by omega) (by omega) (fun zc35 => ?_) (fun zc35 => ?_)
                  · refine V_vret dX4_stepOverRun_162 rfl (nb rfl) (nb rfl) ?_
                    have hr : srE P (l, d, v) = (1, P.2.1, P.2.1 + (max (l + d) 1), v, P.2.2.2.2.1, P.2.2.2.2.2.1, P.2.2.2.2.2.2) := by simp only [srE]; grind
                    exact ⟨rfl, by rw [hr]⟩
                  · refine V_aload_n dX4_stepOverRun_157 0 rfl ?_
                    refine V_iconst 3 dX4_stepOverRun_158 (by decide) ?_
                    refine V_put dX4_stepOverRun_159 pX4_11 0 rfl rfl rfl rfl (ws' := cR w r t (3, P.2.1, P.2.1 + (max (l + d) 1), v, P.2.2.2.2.1, P.2.2.2.2.2.1, P.2.2.2.2.2.2) T) rfl ?_
                    refine V_vret dX4_stepOverRun_162 rfl (nb rfl) (nb rfl) ?_
                    have hr : srE P (l, d, v) = (3, P.2.1, P.2.1 + (max (l + d) 1), v, P.2.2.2.2.1, P.2.2.2.2.2.1, P.2.2.2.2.2.2) := by simp only [srE]; grind
                    exact ⟨rfl, by rw [hr]⟩
            · refine V_iload_n dX4_stepOverRun_132 1 rfl ?_
              refine V_if_le_n l 144 dX4_stepOverRun_133 (by decide) (by omega) (fun zc36 => ?_) (fun zc36 => ?_)
              · refine V_iload_n dX4_stepOverRun_144 1 rfl ?_
                refine V_if_ne_n l 162 dX4_stepOverRun_145 (by decide) (by omega) (fun zc37 => ?_) (fun zc37 => ?_)
                · refine V_vret dX4_stepOverRun_162 rfl (nb rfl) (nb rfl) ?_
                  have hr : srE P (l, d, v) = (1, P.2.1, P.2.1 + (max (l + d) 1), v, P.2.2.2.2.1, P.2.2.2.2.2.1, P.2.2.2.2.2.2) := by simp only [srE]; grind
                  exact ⟨rfl, by rw [hr]⟩
                · refine V_iload_n dX4_stepOverRun_148 2 rfl ?_
                  refine V_if_le_n d 162 dX4_stepOverRun_149 (by decide) (by omega) (fun zc38 => ?_) (fun zc38 => ?_)
                  · refine V_vret dX4_stepOverRun_162 rfl (nb rfl) (nb rfl) ?_
                    have hr : srE P (l, d, v) = (1, P.2.1, P.2.1 + (max (l + d) 1), v, P.2.2.2.2.1, P.2.2.2.2.2.1, P.2.2.2.2.2.2) := by simp only [srE]; grind
                    exact ⟨rfl, by rw [hr]⟩
                  · refine V_iload_n dX4_stepOverRun_152 2 rfl ?_
                    refine V_iconst 5 dX4_stepOverRun_153 (by decide) ?_
                    refine V_icmp_gt_n d 5 162 dX4_stepOverRun_154 (by decide) (by omega) (by omega) (fun zc39 => ?_) (fun zc39 => ?_)
                    · refine V_vret dX4_stepOverRun_162 rfl (nb rfl) (nb rfl) ?_
                      have hr : srE P (l, d, v) = (1, P.2.1, P.2.1 + (max (l + d) 1), v, P.2.2.2.2.1, P.2.2.2.2.2.1, P.2.2.2.2.2.2) := by simp only [srE]; grind
                      exact ⟨rfl, by rw [hr]⟩
                    · refine V_aload_n dX4_stepOverRun_157 0 rfl ?_
                      refine V_iconst 3 dX4_stepOverRun_158 (by decide) ?_
                      refine V_put dX4_stepOverRun_159 pX4_11 0 rfl rfl rfl rfl (ws' := cR w r t (3, P.2.1, P.2.1 + (max (l + d) 1), v, P.2.2.2.2.1, P.2.2.2.2.2.1, P.2.2.2.2.2.2) T) rfl ?_
                      refine V_vret dX4_stepOverRun_162 rfl (nb rfl) (nb rfl) ?_
                      have hr : srE P (l, d, v) = (3, P.2.1, P.2.1 + (max (l + d) 1), v, P.2.2.2.2.1, P.2.2.2.2.2.1, P.2.2.2.2.2.2) := by simp only [srE]; grind
                      exact ⟨rfl, by rw [hr]⟩
              · refine V_aload_n dX4_stepOverRun_136 0 rfl ?_
                refine V_iconst 2 dX4_stepOverRun_137 (by decide) ?_
                refine V_put dX4_stepOverRun_138 pX4_11 0 rfl rfl rfl rfl (ws' := cR w r t (2, P.2.1, P.2.1 + (max (l + d) 1), v, P.2.2.2.2.1, P.2.2.2.2.2.1, P.2.2.2.2.2.2) T) rfl ?_
                refine V_goto 162 dX4_stepOverRun_141 (by decide) ?_
                refine V_vret dX4_stepOverRun_162 rfl (nb rfl) (nb rfl) ?_
                have hr : srE P (l, d, v) = (2, P.2.1, P.2.1 + (max (l + d) 1), v, P.2.2.2.2.1, P.2.2.2.2.2.1, P.2.2.2.2.2.2) := by simp only [srE]; grind
                exact ⟨rfl, by rw [hr]⟩
          · refine V_iload dX4_stepOverRun_62 4 rfl ?_
            refine V_bipush 57 dX4_stepOverRun_64 (by decide) ?_
            refine V_icmp_gt 107 dX4_stepOverRun_66 (by decide) (fun zc40 => ?_) (fun zc40 => ?_)
            · have hx : rv T (T.1 - p) p l d v = (l, d, v) := by
                first
                | (rw [show T.1 - p = 0 by omega]; rfl)
                | (rw [show T.1 - p = T.1 - (p + 1) + 1 by omega, rv, if_neg (by grind [lcB]), if_neg (by grind [dcB])])
              rw [hx]
              refine V_aload_n dX4_stepOverRun_107 0 rfl ?_
              refine V_aload_n dX4_stepOverRun_108 0 rfl ?_
              refine V_get dX4_stepOverRun_109 fX4_15 0 rfl rfl ?_
              refine V_iload_n dX4_stepOverRun_112 1 rfl ?_
              refine V_iload_n dX4_stepOverRun_113 2 rfl ?_
              refine V_iadd dX4_stepOverRun_114 ?_
              refine V_casti (y := nI (l + d)) (nI_add l d) ?_
              refine V_iconst 1 dX4_stepOverRun_115 (by decide) ?_
              refine V_mmax dX4_stepOverRun_116 lX4_143 rfl ?_
              refine V_casti (y := nI (max (l + d) 1)) (imax_nI (b := 1) (by omega) (by omega)) ?_
              refine V_iadd dX4_stepOverRun_119 ?_
              refine V_casti (y := nI (P.2.1 + (max (l + d) 1))) (nI_add P.2.1 (max (l + d) 1)) ?_
              refine V_put dX4_stepOverRun_120 pX4_18 0 rfl rfl rfl rfl (ws' := cR w r t (P.1, P.2.1, P.2.1 + (max (l + d) 1), v, P.2.2.2.2.1, P.2.2.2.2.2.1, P.2.2.2.2.2.2) T) rfl ?_
              refine V_aload_n dX4_stepOverRun_123 0 rfl ?_
              refine V_iconst 1 dX4_stepOverRun_124 (by decide) ?_
              refine V_put dX4_stepOverRun_125 pX4_11 0 rfl rfl rfl rfl (ws' := cR w r t (1, P.2.1, P.2.1 + (max (l + d) 1), v, P.2.2.2.2.1, P.2.2.2.2.2.1, P.2.2.2.2.2.2) T) rfl ?_
              refine V_iload_n dX4_stepOverRun_128 2 rfl ?_
              refine V_if_ne_n d 144 dX4_stepOverRun_129 (by decide) (by omega) (fun zc41 => ?_) (fun zc41 => ?_)
              · refine V_iload_n dX4_stepOverRun_144 1 rfl ?_
                refine V_if_ne_n l 162 dX4_stepOverRun_145 (by decide) (by omega) (fun zc42 => ?_) (fun zc42 => ?_)
                · refine V_vret dX4_stepOverRun_162 rfl (nb rfl) (nb rfl) ?_
                  have hr : srE P (l, d, v) = (1, P.2.1, P.2.1 + (max (l + d) 1), v, P.2.2.2.2.1, P.2.2.2.2.2.1, P.2.2.2.2.2.2) := by simp only [srE]; grind
                  exact ⟨rfl, by rw [hr]⟩
                · refine V_iload_n dX4_stepOverRun_148 2 rfl ?_
                  refine V_if_le_n d 162 dX4_stepOverRun_149 (by decide) (by omega) (fun zc43 => ?_) (fun zc43 => ?_)
                  · refine V_vret dX4_stepOverRun_162 rfl (nb rfl) (nb rfl) ?_
                    have hr : srE P (l, d, v) = (1, P.2.1, P.2.1 + (max (l + d) 1), v, P.2.2.2.2.1, P.2.2.2.2.2.1, P.2.2.2.2.2.2) := by simp only [srE]; grind
                    exact ⟨rfl, by rw [hr]⟩
                  · refine V_iload_n dX4_stepOverRun_152 2 rfl ?_
                    refine V_iconst 5 dX4_stepOverRun_153 (by decide) ?_
                    refine V_icmp_gt_n d 5 162 dX4_stepOverRun_154 (by decide) (by omega) (by omega) (fun zc44 => ?_) (fun zc44 => ?_)
                    · refine V_vret dX4_stepOverRun_162 rfl (nb rfl) (nb rfl) ?_
                      have hr : srE P (l, d, v) = (1, P.2.1, P.2.1 + (max (l + d) 1), v, P.2.2.2.2.1, P.2.2.2.2.2.1, P.2.2.2.2.2.2) := by simp only [srE]; grind
                      exact ⟨rfl, by rw [hr]⟩
                    · refine V_aload_n dX4_stepOverRun_157 0 rfl ?_
                      refine V_iconst 3 dX4_stepOverRun_158 (by decide) ?_
                      refine V_put dX4_stepOverRun_159 pX4_11 0 rfl rfl rfl rfl (ws' := cR w r t (3, P.2.1, P.2.1 + (max (l + d) 1), v, P.2.2.2.2.1, P.2.2.2.2.2.1, P.2.2.2.2.2.2) T) rfl ?_
                      refine V_vret dX4_stepOverRun_162 rfl (nb rfl) (nb rfl) ?_
                      have hr : srE P (l, d, v) = (3, P.2.1, P.2.1 + (max (l + d) 1), v, P.2.2.2.2.1, P.2.2.2.2.2.1, P.2.2.2.2.2.2) := by simp only [srE]; grind
                      exact ⟨rfl, by rw [hr]⟩
              · refine V_iload_n dX4_stepOverRun_132 1 rfl ?_
                refine V_if_le_n l 144 dX4_stepOverRun_133 (by decide) (by omega) (fun zc45 => ?_) (fun zc45 => ?_)
                · refine V_iload_n dX4_stepOverRun_144 1 rfl ?_
                  refine V_if_ne_n l 162 dX4_stepOverRun_145 (by decide) (by omega) (fun zc46 => ?_) (fun zc46 => ?_)
                  · refine V_vret dX4_stepOverRun_162 rfl (nb rfl) (nb rfl) ?_
                    have hr : srE P (l, d, v) = (1, P.2.1, P.2.1 + (max (l + d) 1), v, P.2.2.2.2.1, P.2.2.2.2.2.1, P.2.2.2.2.2.2) := by simp only [srE]; grind
                    exact ⟨rfl, by rw [hr]⟩
                  · refine V_iload_n dX4_stepOverRun_148 2 rfl ?_
                    refine V_if_le_n d 162 dX4_stepOverRun_149 (by decide) (by omega) (fun zc47 => ?_) (fun zc47 => ?_)
                    · refine V_vret dX4_stepOverRun_162 rfl (nb rfl) (nb rfl) ?_
                      have hr : srE P (l, d, v) = (1, P.2.1, P.2.1 + (max (l + d) 1), v, P.2.2.2.2.1, P.2.2.2.2.2.1, P.2.2.2.2.2.2) := by simp only [srE]; grind
                      exact ⟨rfl, by rw [hr]⟩
                    · refine V_iload_n dX4_stepOverRun_152 2 rfl ?_
                      refine V_iconst 5 dX4_stepOverRun_153 (by decide) ?_
                      refine V_icmp_gt_n d 5 162 dX4_stepOverRun_154 (by decide) (by omega) (by omega) (fun zc48 => ?_) (fun zc48 => ?_)
                      · refine V_vret dX4_stepOverRun_162 rfl (nb rfl) (nb rfl) ?_
                        have hr : srE P (l, d, v) = (1, P.2.1, P.2.1 + (max (l + d) 1), v, P.2.2.2.2.1, P.2.2.2.2.2.1, P.2.2.2.2.2.2) := by simp only [srE]; grind
                        exact ⟨rfl, by rw [hr]⟩
                      · refine V_aload_n dX4_stepOverRun_157 0 rfl ?_
                        refine V_iconst 3 dX4_stepOverRun_158 (by decide) ?_
                        refine V_put dX4_stepOverRun_159 pX4_11 0 rfl rfl rfl rfl (ws' := cR w r t (3, P.2.1, P.2.1 + (max (l + d) 1), v, P.2.2.2.2.1, P.2.2.2.2.2.1, P.2.2.2.2.2.2) T) rfl ?_
                        refine V_vret dX4_stepOverRun_162 rfl (nb rfl) (nb rfl) ?_
                        have hr : srE P (l, d, v) = (3, P.2.1, P.2.1 + (max (l + d) 1), v, P.2.2.2.2.1, P.2.2.2.2.2.1, P.2.2.2.2.2.2) := by simp only [srE]; grind
                        exact ⟨rfl, by rw [hr]⟩
                · refine V_aload_n dX4_stepOverRun_136 0 rfl ?_
                  refine V_iconst 2 dX4_stepOverRun_137 (by decide) ?_
                  refine V_put dX4_stepOverRun_138 pX4_11 0 rfl rfl rfl rfl (ws' := cR w r t (2, P.2.1, P.2.1 + (max (l + d) 1), v, P.2.2.2.2.1, P.2.2.2.2.2.1, P.2.2.2.2.2.2) T) rfl ?_
                  refine V_goto 162 dX4_stepOverRun_141 (by decide) ?_
                  refine V_vret dX4_stepOverRun_162 rfl (nb rfl) (nb rfl) ?_
                  have hr : srE P (l, d, v) = (2, P.2.1, P.2.1 + (max (l + d) 1), v, P.2.2.2.2.1, P.2.2.2.2.2.1, P.2.2.2.2.2.2) := by simp only [srE]; grind
                  exact ⟨rfl, by rw [hr]⟩
            · refine V_iinc (nI (d + 1)) dX4_stepOverRun_69 2 rfl (nI_i1 d) rfl (L' := [(0, .ref (r)), (1, .int (nI l)), (2, .int (nI (d + 1))), (3, .int (nI p)), (4, .int (T.2 p))]) rfl ?_
              refine V_aload_n dX4_stepOverRun_72 0 rfl ?_
              refine V_iload_n dX4_stepOverRun_73 2 rfl ?_
              refine V_iconst 5 dX4_stepOverRun_74 (by decide) ?_
              refine V_icmp_gt_n (d + 1) 5 94 dX4_stepOverRun_75 (by decide) (by omega) (by omega) (fun zc49 => ?_) (fun zc49 => ?_)
              · refine V_aload_n dX4_stepOverRun_94 0 rfl ?_
                refine V_get dX4_stepOverRun_95 fX4_21 0 rfl rfl ?_
                refine V_put dX4_stepOverRun_98 pX4_21 0 rfl rfl rfl rfl (ws' := cR w r t (P.1, P.2.1, P.2.2.1, v, P.2.2.2.2.1, P.2.2.2.2.2.1, P.2.2.2.2.2.2) T) rfl ?_
                refine V_iinc (nI (p + 1)) dX4_stepOverRun_101 3 rfl (nI_i1 p) rfl (L' := [(0, .ref (r)), (1, .int (nI l)), (2, .int (nI (d + 1))), (3, .int (nI (p + 1))), (4, .int (T.2 p))]) rfl ?_
                refine V_goto 14 dX4_stepOverRun_104 (by decide) ?_
                refine V_dropL (L' := [(0, .ref (r)), (1, .int (nI l)), (2, .int (nI (d + 1))), (3, .int (nI (p + 1)))]) (L'' := [(4, .int (T.2 p))]) rfl ?_
                rw [show rv T (T.1 - p) p l d v = rv T (T.1 - (p + 1)) (p + 1) l (d + 1) v by
                  rw [show T.1 - p = T.1 - (p + 1) + 1 by omega]
                  first | (rw [rv, if_pos (by grind [lcB])]; done) | (rw [rv, if_neg (by grind [lcB]), if_pos (by grind [dcB]), if_pos (by omega)]; done) | (rw [rv, if_neg (by grind [lcB]), if_pos (by grind [dcB]), if_neg (by omega)]; done)]
                exact ih (p + 1) l (d + 1) v (by omega) (by omega) (by omega)
              · refine V_bipush 10 dX4_stepOverRun_78 (by decide) ?_
                refine V_aload_n dX4_stepOverRun_80 0 rfl ?_
                refine V_get dX4_stepOverRun_81 fX4_21 0 rfl rfl ?_
                refine V_imul dX4_stepOverRun_84 ?_
                refine V_iload dX4_stepOverRun_85 4 rfl ?_
                refine V_iadd dX4_stepOverRun_87 ?_
                refine V_bipush 48 dX4_stepOverRun_88 (by decide) ?_
                refine V_isub dX4_stepOverRun_90 ?_
                refine V_goto 98 dX4_stepOverRun_91 (by decide) ?_
                refine V_put dX4_stepOverRun_98 pX4_21 0 rfl rfl rfl rfl (ws' := cR w r t (P.1, P.2.1, P.2.2.1, ((10 * v) + (T.2 p)) - 48, P.2.2.2.2.1, P.2.2.2.2.2.1, P.2.2.2.2.2.2) T) rfl ?_
                refine V_iinc (nI (p + 1)) dX4_stepOverRun_101 3 rfl (nI_i1 p) rfl (L' := [(0, .ref (r)), (1, .int (nI l)), (2, .int (nI (d + 1))), (3, .int (nI (p + 1))), (4, .int (T.2 p))]) rfl ?_
                refine V_goto 14 dX4_stepOverRun_104 (by decide) ?_
                refine V_dropL (L' := [(0, .ref (r)), (1, .int (nI l)), (2, .int (nI (d + 1))), (3, .int (nI (p + 1)))]) (L'' := [(4, .int (T.2 p))]) rfl ?_
                rw [show rv T (T.1 - p) p l d v = rv T (T.1 - (p + 1)) (p + 1) l (d + 1) (((10 * v) + (T.2 p)) - 48) by
                  rw [show T.1 - p = T.1 - (p + 1) + 1 by omega]
                  first | (rw [rv, if_pos (by grind [lcB])]; done) | (rw [rv, if_neg (by grind [lcB]), if_pos (by grind [dcB]), if_pos (by omega)]; done) | (rw [rv, if_neg (by grind [lcB]), if_pos (by grind [dcB]), if_neg (by omega)]; done)]
                exact ih (p + 1) l (d + 1) (((10 * v) + (T.2 p)) - 48) (by omega) (by omega) (by omega)
        · refine V_iinc (nI (l + 1)) dX4_stepOverRun_49 1 rfl (nI_i1 l) rfl (L' := [(0, .ref (r)), (1, .int (nI (l + 1))), (2, .int (nI d)), (3, .int (nI p)), (4, .int (T.2 p))]) rfl ?_
          refine V_goto 101 dX4_stepOverRun_52 (by decide) ?_
          refine V_iinc (nI (p + 1)) dX4_stepOverRun_101 3 rfl (nI_i1 p) rfl (L' := [(0, .ref (r)), (1, .int (nI (l + 1))), (2, .int (nI d)), (3, .int (nI (p + 1))), (4, .int (T.2 p))]) rfl ?_
          refine V_goto 14 dX4_stepOverRun_104 (by decide) ?_
          refine V_dropL (L' := [(0, .ref (r)), (1, .int (nI (l + 1))), (2, .int (nI d)), (3, .int (nI (p + 1)))]) (L'' := [(4, .int (T.2 p))]) rfl ?_
          rw [show rv T (T.1 - p) p l d v = rv T (T.1 - (p + 1)) (p + 1) (l + 1) d v by
            rw [show T.1 - p = T.1 - (p + 1) + 1 by omega]
            first | (rw [rv, if_pos (by grind [lcB])]; done) | (rw [rv, if_neg (by grind [lcB]), if_pos (by grind [dcB]), if_pos (by omega)]; done) | (rw [rv, if_neg (by grind [lcB]), if_pos (by grind [dcB]), if_neg (by omega)]; done)]
          exact ih (p + 1) (l + 1) d v (by omega) (by omega) (by omega)

set_option maxRecDepth 100000 in
set_option maxHeartbeats 4000000 in
theorem c_R_stepOverRun (w : vWd) (r : Nat) (t : Nat → Nat) (P : RP) (T : TP) (hT : T.1 ≤ 640) (hp : P.2.1 ≤ T.1) : Ct w mX4_stepOverRun 1 0 0 [.ref (r)] (cR w r t P T) (qE none (cR w r t (srE P (rv T (T.1 - P.2.1) P.2.1 0 0 0)) T)) := by
  refine Ct.of (L := [(0, .ref (r))]) (by decide) rfl rfl ?_
  refine V_iconst 0 dX4_stepOverRun_0 (by decide) ?_
  refine V_istore_n dX4_stepOverRun_1 rfl (L' := [(0, .ref (r)), (1, .int 0)]) rfl ?_
  refine V_iconst 0 dX4_stepOverRun_2 (by decide) ?_
  refine V_istore_n dX4_stepOverRun_3 rfl (L' := [(0, .ref (r)), (1, .int 0), (2, .int 0)]) rfl ?_
  refine V_aload_n dX4_stepOverRun_4 0 rfl ?_
  refine V_iconst 0 dX4_stepOverRun_5 (by decide) ?_
  refine V_put dX4_stepOverRun_6 pX4_21 0 rfl rfl rfl rfl (ws' := cR w r t (P.1, P.2.1, P.2.2.1, 0, P.2.2.2.2.1, P.2.2.2.2.2.1, P.2.2.2.2.2.2) T) rfl ?_
  refine V_aload_n dX4_stepOverRun_9 0 rfl ?_
  refine V_get dX4_stepOverRun_10 fX4_15 0 rfl rfl ?_
  refine V_istore_n dX4_stepOverRun_13 rfl (L' := [(0, .ref (r)), (1, .int 0), (2, .int 0), (3, .int (nI (P.2.1)))]) rfl ?_
  exact lp_R_run w r t P T hT (T.1 - P.2.1 + 1) P.2.1 0 0 0 (by omega) hp (by omega)

set_option maxRecDepth 100000 in
set_option maxHeartbeats 4000000 in
theorem lp_R_step (w : vWd) (r : Nat) (t : Nat → Nat) (P : RP) (T : TP) (hT : T.1 ≤ 640) : ∀ (m : Nat) (q : Nat), (min T.1 600 - q + 1 ≤ m) → (q ≤ T.1) → V w mX4_step (vc w 2 0 0 (qE none (cR w r t (stE T P (sk T (min T.1 600 - q) q)) T))) 0 0 19 [(0, .ref (r)), (1, .int (nI (min T.1 600))), (2, .int (nI q))] [] (cR w r t P T) := by
  intro m
  induction m with
  | zero =>
    intro q h1 hq
    exact absurd h1 (by omega)
  | succ m ih =>
    intro q h1 hq
    refine V_iload_n dX4_step_19 2 rfl ?_
    refine V_iload_n dX4_step_20 1 rfl ?_
    refine V_icmp_ge_n q (min T.1 600) 56 dX4_step_21 (by decide) (by omega) (by omega) (fun zc1 => ?_) (fun zc1 => ?_)
    · have hx : sk T (min T.1 600 - q) q = q := by
        first
        | (rw [show min T.1 600 - q = 0 by omega]; rfl)
        | (rw [show min T.1 600 - q = min T.1 600 - (q + 1) + 1 by omega, sk, if_neg (by grind)])
      rw [hx]
      refine V_aload_n dX4_step_56 0 rfl ?_
      refine V_iload_n dX4_step_57 2 rfl ?_
      refine V_iload_n dX4_step_58 1 rfl ?_
      refine V_mmin dX4_step_59 lX4_134 rfl ?_
      refine V_casti (y := nI (min q (min T.1 600))) (imin_nI (by omega) (by omega)) ?_
      refine V_put dX4_step_62 pX4_15 0 rfl rfl rfl rfl (ws' := cR w r t (P.1, min q (min T.1 600), P.2.2.1, P.2.2.2.1, P.2.2.2.2.1, P.2.2.2.2.2.1, P.2.2.2.2.2.2) T) rfl ?_
      refine V_aload_n dX4_step_65 0 rfl ?_
      refine V_iload_n dX4_step_66 2 rfl ?_
      refine V_iconst 1 dX4_step_67 (by decide) ?_
      refine V_iadd dX4_step_68 ?_
      refine V_casti (y := nI (q + 1)) (nI_add q 1) ?_
      refine V_put dX4_step_69 pX4_18 0 rfl rfl rfl rfl (ws' := cR w r t (P.1, min q (min T.1 600), q + 1, P.2.2.2.1, P.2.2.2.2.1, P.2.2.2.2.2.1, P.2.2.2.2.2.2) T) rfl ?_
      refine V_aload_n dX4_step_72 0 rfl ?_
      refine V_get dX4_step_73 fX4_33 0 rfl rfl ?_
      refine V_aload_n dX4_step_76 0 rfl ?_
      refine V_get dX4_step_77 fX4_15 0 rfl rfl ?_
      refine V_partR dX4_step_80 lX4_126 [rC r (t 0) (P.1, min q (min T.1 600), q + 1, P.2.2.2.1, P.2.2.2.2.1, P.2.2.2.2.2.1, P.2.2.2.2.2.2)] (c_T_signAt w t T (nI (min q (min T.1 600))) hT) cR_perm rfl rfl 0 rfl rfl rfl rfl ?_
      refine V_istore_n dX4_step_83 rfl (L' := [(0, .ref (r)), (1, .int (nI (min T.1 600))), (2, .int (nI q)), (3, .int (tSign T (nI (min q (min T.1 600)))))]) rfl ?_
      refine V_iload_n dX4_step_84 2 rfl ?_
      refine V_iload_n dX4_step_85 1 rfl ?_
      refine V_icmp_lt_n q (min T.1 600) 102 dX4_step_86 (by decide) (by omega) (by omega) (fun zc2 => ?_) (fun zc2 => ?_)
      · have hpq : min q (min T.1 600) = q := by omega
        have hs9 : tSign T (nI (min q (min T.1 600))) = T.2 q := by rw [hpq, tSign_n hT (by omega), if_pos (by omega)]
        refine V_iload_n dX4_step_102 3 rfl ?_
        refine V_bipush 59 dX4_step_103 (by decide) ?_
        refine V_icmp_ne 116 dX4_step_105 (by decide) (fun zc3 => ?_) (fun zc3 => ?_)
        · refine V_iload_n dX4_step_116 3 rfl ?_
          refine V_bipush 45 dX4_step_117 (by decide) ?_
          refine V_icmp_ne 130 dX4_step_119 (by decide) (fun zc4 => ?_) (fun zc4 => ?_)
          · refine V_ws (ws' := cR w r t (P.1, q, q + 1, P.2.2.2.1, P.2.2.2.2.1, P.2.2.2.2.2.1, P.2.2.2.2.2.2) T) (by rw [hpq]) ?_
            refine V_aload_n dX4_step_130 0 rfl ?_
            refine V_selfE (ws' := cR w r t (srE (P.1, q, q + 1, P.2.2.2.1, P.2.2.2.2.1, P.2.2.2.2.2.1, P.2.2.2.2.2.2) (rv T (T.1 - q) q 0 0 0)) T) dX4_step_131 lX4_140 (c_R_stepOverRun w r t (P.1, q, q + 1, P.2.2.2.1, P.2.2.2.2.1, P.2.2.2.2.2.1, P.2.2.2.2.2.2) T hT (by show _ ≤ T.1; omega)) rfl rfl 0 rfl rfl rfl rfl ?_
            refine V_vret dX4_step_134 rfl (nb rfl) (nb rfl) ?_
            have hr : stE T P q = (srE (P.1, q, q + 1, P.2.2.2.1, P.2.2.2.2.1, P.2.2.2.2.2.1, P.2.2.2.2.2.2) (rv T (T.1 - q) q 0 0 0)) := by unfold stE; grind
            exact ⟨rfl, by rw [hr]⟩
          · refine V_aload_n dX4_step_122 0 rfl ?_
            refine V_iconst 5 dX4_step_123 (by decide) ?_
            refine V_put dX4_step_124 pX4_11 0 rfl rfl rfl rfl (ws' := cR w r t (5, min q (min T.1 600), q + 1, P.2.2.2.1, P.2.2.2.2.1, P.2.2.2.2.2.1, P.2.2.2.2.2.2) T) rfl ?_
            refine V_goto 134 dX4_step_127 (by decide) ?_
            refine V_vret dX4_step_134 rfl (nb rfl) (nb rfl) ?_
            have hr : stE T P q = (5, min q (min T.1 600), q + 1, P.2.2.2.1, P.2.2.2.2.1, P.2.2.2.2.2.1, P.2.2.2.2.2.2) := by unfold stE; grind
            exact ⟨rfl, by rw [hr]⟩
        · refine V_aload_n dX4_step_108 0 rfl ?_
          refine V_iconst 4 dX4_step_109 (by decide) ?_
          refine V_put dX4_step_110 pX4_11 0 rfl rfl rfl rfl (ws' := cR w r t (4, min q (min T.1 600), q + 1, P.2.2.2.1, P.2.2.2.2.1, P.2.2.2.2.2.1, P.2.2.2.2.2.2) T) rfl ?_
          refine V_goto 134 dX4_step_113 (by decide) ?_
          refine V_vret dX4_step_134 rfl (nb rfl) (nb rfl) ?_
          have hr : stE T P q = (4, min q (min T.1 600), q + 1, P.2.2.2.1, P.2.2.2.2.1, P.2.2.2.2.2.1, P.2.2.2.2.2.2) := by unfold stE; grind
          exact ⟨rfl, by rw [hr]⟩
      · refine V_aload_n dX4_step_89 0 rfl ?_
        refine V_iload_n dX4_step_90 1 rfl ?_
        refine V_put dX4_step_91 pX4_18 0 rfl rfl rfl rfl (ws' := cR w r t (P.1, min q (min T.1 600), min T.1 600, P.2.2.2.1, P.2.2.2.2.1, P.2.2.2.2.2.1, P.2.2.2.2.2.2) T) rfl ?_
        refine V_aload_n dX4_step_94 0 rfl ?_
        refine V_iconst 0 dX4_step_95 (by decide) ?_
        refine V_put dX4_step_96 pX4_11 0 rfl rfl rfl rfl (ws' := cR w r t (0, min q (min T.1 600), min T.1 600, P.2.2.2.1, P.2.2.2.2.1, P.2.2.2.2.2.1, P.2.2.2.2.2.2) T) rfl ?_
        refine V_goto 134 dX4_step_99 (by decide) ?_
        refine V_vret dX4_step_134 rfl (nb rfl) (nb rfl) ?_
        have hr : stE T P q = (0, min q (min T.1 600), min T.1 600, P.2.2.2.1, P.2.2.2.2.1, P.2.2.2.2.2.1, P.2.2.2.2.2.2) := by unfold stE; grind
        exact ⟨rfl, by rw [hr]⟩
    · refine V_aload_n dX4_step_24 0 rfl ?_
      refine V_get dX4_step_25 fX4_33 0 rfl rfl ?_
      refine V_iload_n dX4_step_28 2 rfl ?_
      refine V_partR dX4_step_29 lX4_126 [rC r (t 0) P] (c_T_signAt w t T (nI q) hT) cR_perm rfl rfl 0 rfl rfl rfl rfl ?_
      refine V_casti (y := T.2 q) (by rw [tSign_n hT (by omega), if_pos (by omega)]) ?_
      refine V_bipush 32 dX4_step_32 (by decide) ?_
      refine V_icmp_eq 50 dX4_step_34 (by decide) (fun zc5 => ?_) (fun zc5 => ?_)
      · refine V_iinc (nI (q + 1)) dX4_step_50 2 rfl (nI_i1 q) rfl (L' := [(0, .ref (r)), (1, .int (nI (min T.1 600))), (2, .int (nI (q + 1)))]) rfl ?_
        refine V_goto 19 dX4_step_53 (by decide) ?_
        rw [show sk T (min T.1 600 - q) q = sk T (min T.1 600 - (q + 1)) (q + 1) by
          rw [show min T.1 600 - q = min T.1 600 - (q + 1) + 1 by omega, sk, if_pos (by grind)]]
        exact ih (q + 1) (by omega) (by omega)
      · refine V_aload_n dX4_step_37 0 rfl ?_
        refine V_get dX4_step_38 fX4_33 0 rfl rfl ?_
        refine V_iload_n dX4_step_41 2 rfl ?_
        refine V_partR dX4_step_42 lX4_126 [rC r (t 0) P] (c_T_signAt w t T (nI q) hT) cR_perm rfl rfl 0 rfl rfl rfl rfl ?_
        refine V_casti (y := T.2 q) (by rw [tSign_n hT (by omega), if_pos (by omega)]) ?_
        refine V_bipush 10 dX4_step_45 (by decide) ?_
        refine V_icmp_ne 56 dX4_step_47 (by decide) (fun zc6 => ?_) (fun zc6 => ?_)
        · have hx : sk T (min T.1 600 - q) q = q := by
            first
            | (rw [show min T.1 600 - q = 0 by omega]; rfl)
            | (rw [show min T.1 600 - q = min T.1 600 - (q + 1) + 1 by omega, sk, if_neg (by grind)])
          rw [hx]
          refine V_aload_n dX4_step_56 0 rfl ?_
          refine V_iload_n dX4_step_57 2 rfl ?_
          refine V_iload_n dX4_step_58 1 rfl ?_
          refine V_mmin dX4_step_59 lX4_134 rfl ?_
          refine V_casti (y := nI (min q (min T.1 600))) (imin_nI (by omega) (by omega)) ?_
          refine V_put dX4_step_62 pX4_15 0 rfl rfl rfl rfl (ws' := cR w r t (P.1, min q (min T.1 600), P.2.2.1, P.2.2.2.1, P.2.2.2.2.1, P.2.2.2.2.2.1, P.2.2.2.2.2.2) T) rfl ?_
          refine V_aload_n dX4_step_65 0 rfl ?_
          refine V_iload_n dX4_step_66 2 rfl ?_
          refine V_iconst 1 dX4_step_67 (by decide) ?_
          refine V_iadd dX4_step_68 ?_
          refine V_casti (y := nI (q + 1)) (nI_add q 1) ?_
          refine V_put dX4_step_69 pX4_18 0 rfl rfl rfl rfl (ws' := cR w r t (P.1, min q (min T.1 600), q + 1, P.2.2.2.1, P.2.2.2.2.1, P.2.2.2.2.2.1, P.2.2.2.2.2.2) T) rfl ?_
          refine V_aload_n dX4_step_72 0 rfl ?_
          refine V_get dX4_step_73 fX4_33 0 rfl rfl ?_
          refine V_aload_n dX4_step_76 0 rfl ?_
          refine V_get dX4_step_77 fX4_15 0 rfl rfl ?_
          refine V_partR dX4_step_80 lX4_126 [rC r (t 0) (P.1, min q (min T.1 600), q + 1, P.2.2.2.1, P.2.2.2.2.1, P.2.2.2.2.2.1, P.2.2.2.2.2.2)] (c_T_signAt w t T (nI (min q (min T.1 600))) hT) cR_perm rfl rfl 0 rfl rfl rfl rfl ?_
          refine V_istore_n dX4_step_83 rfl (L' := [(0, .ref (r)), (1, .int (nI (min T.1 600))), (2, .int (nI q)), (3, .int (tSign T (nI (min q (min T.1 600)))))]) rfl ?_
          refine V_iload_n dX4_step_84 2 rfl ?_
          refine V_iload_n dX4_step_85 1 rfl ?_
          refine V_icmp_lt_n q (min T.1 600) 102 dX4_step_86 (by decide) (by omega) (by omega) (fun zc7 => ?_) (fun zc7 => ?_)
          · have hpq : min q (min T.1 600) = q := by omega
            have hs9 : tSign T (nI (min q (min T.1 600))) = T.2 q := by rw [hpq, tSign_n hT (by omega), if_pos (by omega)]
            refine V_iload_n dX4_step_102 3 rfl ?_
            refine V_bipush 59 dX4_step_103 (by decide) ?_
            refine V_icmp_ne 116 dX4_step_105 (by decide) (fun zc8 => ?_) (fun zc8 => ?_)
            · refine V_iload_n dX4_step_116 3 rfl ?_
              refine V_bipush 45 dX4_step_117 (by decide) ?_
              refine V_icmp_ne 130 dX4_step_119 (by decide) (fun zc9 => ?_) (fun zc9 => ?_)
              · refine V_ws (ws' := cR w r t (P.1, q, q + 1, P.2.2.2.1, P.2.2.2.2.1, P.2.2.2.2.2.1, P.2.2.2.2.2.2) T) (by rw [hpq]) ?_
                refine V_aload_n dX4_step_130 0 rfl ?_
                refine V_selfE (ws' := cR w r t (srE (P.1, q, q + 1, P.2.2.2.1, P.2.2.2.2.1, P.2.2.2.2.2.1, P.2.2.2.2.2.2) (rv T (T.1 - q) q 0 0 0)) T) dX4_step_131 lX4_140 (c_R_stepOverRun w r t (P.1, q, q + 1, P.2.2.2.1, P.2.2.2.2.1, P.2.2.2.2.2.1, P.2.2.2.2.2.2) T hT (by show _ ≤ T.1; omega)) rfl rfl 0 rfl rfl rfl rfl ?_
                refine V_vret dX4_step_134 rfl (nb rfl) (nb rfl) ?_
                have hr : stE T P q = (srE (P.1, q, q + 1, P.2.2.2.1, P.2.2.2.2.1, P.2.2.2.2.2.1, P.2.2.2.2.2.2) (rv T (T.1 - q) q 0 0 0)) := by unfold stE; grind
                exact ⟨rfl, by rw [hr]⟩
              · refine V_aload_n dX4_step_122 0 rfl ?_
                refine V_iconst 5 dX4_step_123 (by decide) ?_
                refine V_put dX4_step_124 pX4_11 0 rfl rfl rfl rfl (ws' := cR w r t (5, min q (min T.1 600), q + 1, P.2.2.2.1, P.2.2.2.2.1, P.2.2.2.2.2.1, P.2.2.2.2.2.2) T) rfl ?_
                refine V_goto 134 dX4_step_127 (by decide) ?_
                refine V_vret dX4_step_134 rfl (nb rfl) (nb rfl) ?_
                have hr : stE T P q = (5, min q (min T.1 600), q + 1, P.2.2.2.1, P.2.2.2.2.1, P.2.2.2.2.2.1, P.2.2.2.2.2.2) := by unfold stE; grind
                exact ⟨rfl, by rw [hr]⟩
            · refine V_aload_n dX4_step_108 0 rfl ?_
              refine V_iconst 4 dX4_step_109 (by decide) ?_
              refine V_put dX4_step_110 pX4_11 0 rfl rfl rfl rfl (ws' := cR w r t (4, min q (min T.1 600), q + 1, P.2.2.2.1, P.2.2.2.2.1, P.2.2.2.2.2.1, P.2.2.2.2.2.2) T) rfl ?_
              refine V_goto 134 dX4_step_113 (by decide) ?_
              refine V_vret dX4_step_134 rfl (nb rfl) (nb rfl) ?_
              have hr : stE T P q = (4, min q (min T.1 600), q + 1, P.2.2.2.1, P.2.2.2.2.1, P.2.2.2.2.2.1, P.2.2.2.2.2.2) := by unfold stE; grind
              exact ⟨rfl, by rw [hr]⟩
          · refine V_aload_n dX4_step_89 0 rfl ?_
            refine V_iload_n dX4_step_90 1 rfl ?_
            refine V_put dX4_step_91 pX4_18 0 rfl rfl rfl rfl (ws' := cR w r t (P.1, min q (min T.1 600), min T.1 600, P.2.2.2.1, P.2.2.2.2.1, P.2.2.2.2.2.1, P.2.2.2.2.2.2) T) rfl ?_
            refine V_aload_n dX4_step_94 0 rfl ?_
            refine V_iconst 0 dX4_step_95 (by decide) ?_
            refine V_put dX4_step_96 pX4_11 0 rfl rfl rfl rfl (ws' := cR w r t (0, min q (min T.1 600), min T.1 600, P.2.2.2.1, P.2.2.2.2.1, P.2.2.2.2.2.1, P.2.2.2.2.2.2) T) rfl ?_
            refine V_goto 134 dX4_step_99 (by decide) ?_
            refine V_vret dX4_step_134 rfl (nb rfl) (nb rfl) ?_
            have hr : stE T P q = (0, min q (min T.1 600), min T.1 600, P.2.2.2.1, P.2.2.2.2.1, P.2.2.2.2.2.1, P.2.2.2.2.2.2) := by unfold stE; grind
            exact ⟨rfl, by rw [hr]⟩
        · refine V_iinc (nI (q + 1)) dX4_step_50 2 rfl (nI_i1 q) rfl (L' := [(0, .ref (r)), (1, .int (nI (min T.1 600))), (2, .int (nI (q + 1)))]) rfl ?_
          refine V_goto 19 dX4_step_53 (by decide) ?_
          rw [show sk T (min T.1 600 - q) q = sk T (min T.1 600 - (q + 1)) (q + 1) by
            rw [show min T.1 600 - q = min T.1 600 - (q + 1) + 1 by omega, sk, if_pos (by grind)]]
          exact ih (q + 1) (by omega) (by omega)

set_option maxRecDepth 100000 in
set_option maxHeartbeats 4000000 in
theorem c_R_step (w : vWd) (r : Nat) (t : Nat → Nat) (P : RP) (T : TP) (hT : T.1 ≤ 640) (hn : P.2.2.1 ≤ T.1) : Ct w mX4_step 2 0 0 [.ref (r)] (cR w r t P T) (qE none (cR w r t (stR T P) T)) := by
  refine Ct.of (L := [(0, .ref (r))]) (by decide) rfl rfl ?_
  refine V_aload_n dX4_step_0 0 rfl ?_
  refine V_get dX4_step_1 fX4_33 0 rfl rfl ?_
  refine V_partR dX4_step_4 lX4_60 [rC r (t 0) P] (c_T_size w t T) cR_perm rfl rfl 0 rfl rfl rfl rfl ?_
  refine V_sipush 600 dX4_step_7 (by decide) ?_
  refine V_mmin dX4_step_10 lX4_134 rfl ?_
  refine V_casti (y := nI (min T.1 600)) (imin_nI (b := 600) (by omega) (by omega)) ?_
  refine V_istore_n dX4_step_13 rfl (L' := [(0, .ref (r)), (1, .int (nI (min T.1 600)))]) rfl ?_
  refine V_aload_n dX4_step_14 0 rfl ?_
  refine V_get dX4_step_15 fX4_18 0 rfl rfl ?_
  refine V_istore_n dX4_step_18 rfl (L' := [(0, .ref (r)), (1, .int (nI (min T.1 600))), (2, .int (nI (P.2.2.1)))]) rfl ?_
  exact lp_R_step w r t P T hT (min T.1 600 - P.2.2.1 + 1) P.2.2.1 (by omega) hn

theorem rv_le (T : TP) : ∀ (m p l d : Nat) (v : Int32), m ≤ T.1 - p → p ≤ T.1 → (rv T m p l d v).1 + (rv T m p l d v).2.1 ≤ l + d + m
  | 0, p, l, d, v, _, _ => by simp [rv]
  | m + 1, p, l, d, v, h1, h2 => by
    rw [rv]
    split
    · have := rv_le T m (p + 1) (l + 1) d v (by omega) (by omega); omega
    · split
      · have := rv_le T m (p + 1) l (d + 1) (if d + 1 ≤ 5 then 10 * v + T.2 p - 48 else v) (by omega) (by omega); omega
      · show l + d ≤ _; omega
theorem stR_nx {T : TP} {P : RP} : (stR T P).2.2.1 ≤ T.1 ∧ (stR T P).2.1 ≤ T.1 ∧ (stR T P).1 ≤ 5 := by
  unfold stR stE
  generalize sk T (min T.1 600 - P.2.2.1) P.2.2.1 = q
  split
  · split
    · exact ⟨by show q + 1 ≤ T.1; omega, by show q ≤ T.1; omega, by show 4 ≤ 5; omega⟩
    · split
      · exact ⟨by show q + 1 ≤ T.1; omega, by show q ≤ T.1; omega, by show 5 ≤ 5; omega⟩
      · have h := rv_le T (T.1 - q) q 0 0 0 (by omega) (by omega)
        refine ⟨?_, by show q ≤ T.1; omega, ?_⟩
        · show q + max ((rv T (T.1 - q) q 0 0 0).1 + (rv T (T.1 - q) q 0 0 0).2.1) 1 ≤ T.1; omega
        · show (if _ then 2 else if _ then 3 else 1) ≤ 5
          split
          · omega
          · split <;> omega
  · exact ⟨by show min T.1 600 ≤ T.1; omega, by show min T.1 600 ≤ T.1; omega, by show 0 ≤ 5; omega⟩
