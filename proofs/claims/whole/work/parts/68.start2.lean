/-! 68: the classes, the arrays' classes, the String constants and the statics at the start -/
theorem st_one {own : String} {idx ci : Nat} {fs : List Value} {args : Array Value} {s : State} (hts : ∀ x ∈ TT, x.before args s = true) (h : vNc own idx ci fs) : ∃ r : ClassId × (Nat → Nat), ∀ q : vw_C, vwCl[ci]? = some q → u_Kn s q.1 q.2.1 q.2.2 r.1 r.2 := by
  obtain ⟨CC, T, N, ty, l1, l2, l3, l4, l5, l6, l7, l8⟩ := h
  obtain ⟨cC, iS, hK⟩ := u_known hts l2 (hts _ l5)
  refine ⟨(cC, iS), fun q hq => ?_⟩
  rw [l1] at hq
  cases hq
  exact hK
theorem st_class {args : Array Value} {s : State} (hts : ∀ x ∈ TT, x.before args s = true) (k : Nat) : ∃ r : ClassId × (Nat → Nat), ∀ q : vw_C, vwCl[k]? = some q → u_Kn s q.1 q.2.1 q.2.2 r.1 r.2 := by
  match k with
  | 0 => exact st_one hts nX7_39
  | 1 => exact st_one hts nX7_46
  | 2 => exact st_one hts nX1_21
  | 3 => exact st_one hts nX7_25
  | 4 => exact st_one hts nX7_16
  | 5 => exact st_one hts nX7_9
  | 6 => exact st_one hts nX7_32
  | 7 => exact st_one hts nL_8
  | 8 => exact st_one hts nL_19
  | k + 9 => exact ⟨(0, fun _ => 0), fun q hq => by simp at hq⟩
theorem st_arr {args : Array Value} {s : State} {t : FieldType} (h : (Cond.arrayClass t).before args s = true) : ∃ cA : ClassId, ArrOfT s cA t ∧ s.vm.findClass ("[" ++ t.toString) = some cA := by
  obtain ⟨c, k, comp, h1, h2, h3⟩ := Cond.arrayClass_spec h
  exact ⟨c, fun n z => ⟨fun k h => (by cases h), k, h2, comp, h3⟩, h1⟩
theorem st_arrO {s : State} {C : String} (h : va_AO C s) : ∃ cA : ClassId, ArrOfT s cA (.object C) ∧ va_RA s cA (.object C) ∧ s.vm.findClass ("[" ++ (FieldType.object C).toString) = some cA := by
  obtain ⟨comp, c, k, h1, h2, h3, h4, h5⟩ := Cond.arrayOver_spec h
  exact ⟨c, fun n z => ⟨fun k h => (by cases h), k, h3, comp, h4⟩, ⟨k, comp, h3, h4, h1, h5⟩, h5⟩
theorem st_arrA {s : State} {t : FieldType} (h : va_AOA t s) : ∃ cA : ClassId, ArrOfT s cA (.array t) ∧ s.vm.findClass ("[" ++ (FieldType.array t).toString) = some cA := by
  obtain ⟨comp, c, k, h1, h2, h3, h4, h5⟩ := vo_spec h
  exact ⟨c, fun n z => ⟨fun k h => (by cases h), k, h3, comp, h4⟩, h5⟩
theorem st_refs : ∀ q ∈ vRefs, stTm q.2.2.2 = Term.string q.1 q.2.1 ∧ q.2.2.2 < 12 := by decide +kernel
theorem st_texts {args : Array Value} {s : State} {A : Nat → Prop} (hf : ∀ c ∈ stF, c.before args s = true) (hA : ∀ a : Nat, a < s.heap.size → ¬ A a) : ∃ ad adV : Nat → Nat, vk_S 8 vLen vByt ad adV A s s.heap ∧ ∀ j, j < 12 → (stTm j).eval args s none [] s = some (.ref (ad j)) := by
  obtain ⟨adK, adV, hS, hev⟩ := vk_Sof (N := 8) (tm := stTm) (len := vLen) (byt := vByt) (A := A) (args := args) (s := s) (by decide) (fun i hi => hf _ (stE1 i (by omega))) (fun i hi => hf _ (stE2 i hi)) (fun i hi => hf _ (stE3 i hi)) (fun i hi => hf _ (stE4 i hi)) (fun i hi j hj => hf _ (stE5 i hi j hj)) (fun i j hi hj ne => (stE6 i hi j hj ne).imp (hf _) (hf _)) hA
  have h0 : ∀ j : Nat, ∃ a : Nat, j < 12 → (stTm j).eval args s none [] s = some (.ref a) := fun j => by
    by_cases hj : j < 12
    · obtain ⟨a, c, cA, kA, q1, -⟩ := Cond.exactly_spec (args := args) (first := s) (o := none) (s := s) (idx := []) (t := stTm j) (cls := "java/lang/String") (hf _ (stE1 j hj))
      exact ⟨a, fun _ => q1⟩
    · exact ⟨0, fun h => absurd h hj⟩
  obtain ⟨ad, had⟩ := Classical.axiomOfChoice h0
  have e : ∀ i, i < 8 → adK i = ad i := fun i hi => by
    have h1 := hev i hi
    rw [had i (by omega)] at h1
    injection h1 with h2
    injection h2 with h3
    exact h3.symm
  refine ⟨ad, adV, ⟨fun i hi => ?_, fun i j hi hj ij => ?_⟩, had⟩
  · rw [← e i hi]
    exact hS.1 i hi
  · rw [← e i hi, ← e j hj] at ij
    exact hS.2 i j hi hj ij
theorem st_world {s : State} {args : Array Value} (l : Launch) (htb : ∀ x ∈ lw_tbl, x.before args s = true) (hgv : (Jvm.Cond.and given_1 narrow_1).before args s = true) : ∃ (ids : vIds) (str : vStr), va_K (vD (l, ids, str)) vwCl (vT (l, ids, str)) s ∧ vX (l, ids, str) (fun q => s.heap.size ≤ q) s s.heap := by
  have hts : ∀ x ∈ TT, x.before args s = true := fun x hx => htb x (TT_sub hx)
  have hw : ∀ c ∈ stW, c.before args s = true := fun c hc => htb c (stW_in c hc)
  have hf : ∀ c ∈ stF, c.before args s = true := flat_of_before _ hgv
  have hA : ∀ a : Nat, a < s.heap.size → ¬ (fun q : Nat => s.heap.size ≤ q) a := fun a h q => absurd h (Nat.not_lt.mpr q)
  obtain ⟨r, hr⟩ := Classical.axiomOfChoice (st_class hts)
  obtain ⟨ad, adV, hS, hev⟩ := st_texts (A := fun q : Nat => s.heap.size ≤ q) hf hA
  have hAO : va_AO "CashDeriver$Journal" s := va_AO.of (hw (.arrayOver (.object "CashDeriver$Journal")) (by decide +kernel))
  have hAA : va_AOA .int s := va_AOA.of (hw (.arrayOver (.array .int)) (by decide +kernel))
  obtain ⟨c0, a0, f0⟩ := st_arr (hw (.arrayClass .int) (by decide +kernel))
  obtain ⟨c1, a1, f1⟩ := st_arr (hw (.arrayClass .byte) (by decide +kernel))
  obtain ⟨c2, a2, f2⟩ := st_arr (hw (.arrayClass .long) (by decide +kernel))
  obtain ⟨c3, a3, g3, f3⟩ := st_arrO hAO
  obtain ⟨c4, a4, f4⟩ := st_arrA hAA
  refine ⟨((fun k => (r k).1, fun k => (r k).2), fun k => match k with | 0 => c0 | 1 => c1 | 2 => c2 | 3 => c3 | _ => c4), (ad, adV), ⟨fun k q hq => hr k q hq, fun k q hq => ?_⟩, ?_⟩
  · match k, hq with
    | 0, hq => cases hq; exact ⟨a0, f0⟩
    | 1, hq => cases hq; exact ⟨a1, f1⟩
    | 2, hq => cases hq; exact ⟨a2, f2⟩
    | 3, hq => cases hq; exact ⟨a3, g3⟩
    | 4, hq => cases hq; exact ⟨a4, f4⟩
    | k + 5, hq => simp [vT] at hq
  · refine ⟨fun q hq => va_Nw.of rfl (hw _ ?_), fun q hq => ?_, hS, va_Zof (hw (.laysStatic "java/lang/String" "COMPACT_STRINGS" "Z") (by decide +kernel)) (hw (.initialized "java/lang/String") (by decide +kernel)) (va_eqt (hf _ stE7.1)) hA, va_Zqof (hw (.laysStatic "jdk/internal/util/Preconditions" "SIOOBE_FORMATTER" "Ljava/util/function/BiFunction;") (by decide +kernel)) (hw (.initialized "jdk/internal/util/Preconditions") (by decide +kernel)) (hf _ stE7.2.1) hA, vx_Zqof (hw (.laysStatic Bundle.tN "UNASSIGNED_STACK" Bundle.steD) (by decide +kernel)) (hw (.initialized Bundle.tN) (by decide +kernel)) (hf _ stE7.2.2.1) hA, vx_Zqof (hw (.laysStatic Bundle.tN "SUPPRESSED_SENTINEL" Bundle.listD) (by decide +kernel)) (hw (.initialized Bundle.tN) (by decide +kernel)) (hf _ stE7.2.2.2) hA, fun x hx => va_Nw.of rfl (hw _ ?_), va_Nw.of rfl (hw _ (by decide +kernel)), ⟨fun q hq => ?_, hAO, hAA⟩⟩
    · exact List.mem_append_left _ (List.mem_map_of_mem hq)
    · obtain ⟨e1, e2⟩ := st_refs q hq
      refine vk_R.of (A := args) (hw _ ?_) ?_
      · exact List.mem_append_right _ (List.mem_append_left _ (List.mem_map_of_mem hq))
      · rw [← e1]
        exact hev _ e2
    · exact List.mem_append_right _ (List.mem_append_right _ (List.mem_append_left _ (List.mem_map_of_mem hx)))
    · simp only [vArr, List.mem_cons, List.not_mem_nil, or_false] at hq
      rcases hq with e | e | e | e | e <;> subst e
      · exact f0
      · exact f1
      · exact f2
      · exact f3
      · exact f4
