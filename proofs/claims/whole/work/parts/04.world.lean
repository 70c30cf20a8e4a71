/-! 04: what the machine's start gives beside the cells (words of the tables, String constants), and how it stays -/
def TT : List Cond := lw_tbl.filter goodWord
theorem TT_good {x : Cond} (h : x ∈ TT) : goodWord x = true := (List.mem_filter.mp h).2
theorem TT_sub {x : Cond} (h : x ∈ TT) : x ∈ lw_tbl := (List.mem_filter.mp h).1
theorem TT_at {x : Cond} (i : Nat) (h : lw_tbl[i]? = some x) (g : goodWord x = true) : x ∈ TT := List.mem_filter.mpr ⟨List.mem_of_getElem? h, g⟩
theorem TT_in {x : Cond} (h : x ∈ lw_tbl) (g : goodWord x = true) : x ∈ TT := List.mem_filter.mpr ⟨h, g⟩
def vws (M : vMet) : List Cond := .code M.1 M.2.1 M.2.2.1 M.2.2.2 :: TT
abbrev vIds : Type := va_G × (Nat → ClassId)
abbrev vStr : Type := (Nat → Nat) × (Nat → Nat)
abbrev vWd : Type := Launch × vIds × vStr
abbrev vD (w : vWd) : va_G := w.2.1.1
abbrev vA (w : vWd) (k : Nat) : ClassId := w.2.1.2 k
def vT (w : vWd) : List (ClassId × FieldType) := [(vA w 0, .int), (vA w 1, .byte), (vA w 2, .long), (vA w 3, .object "CashDeriver$Journal"), (vA w 4, .array .int)]
def vNest : List (String × Nat × MethodName × String) := [("CashDeriver", 11, ⟨"CashDeriver$Tape", "<init>", "()V"⟩, "CashDeriver"), ("CashDeriver", 27, ⟨"CashDeriver$Parter", "<init>", "()V"⟩, "CashDeriver"), ("CashDeriver", 34, ⟨"CashDeriver$Tracer", "<init>", "()V"⟩, "CashDeriver"), ("CashDeriver", 41, ⟨"CashDeriver$Acts", "<init>", "()V"⟩, "CashDeriver"), ("CashDeriver$Book", 34, ⟨"CashDeriver$Journal", "<init>", "()V"⟩, "CashDeriver")]
/-- the String constants: who names them, by which entry, the text, which of them -/
def vRefs : List (String × Nat × String × Nat) := [("CashDeriver$Reader", 109, "cash", 0), ("CashDeriver$Reader", 111, "work", 1), ("CashDeriver$Reader", 113, "income", 2), ("CashDeriver$Reader", 115, "invest", 3), ("CashDeriver$Reader", 117, "finance", 4), ("CashDeriver$Reader", 119, "currency", 5), ("CashDeriver$Reader", 45, "account", 6), ("CashDeriver$Reader", 55, "journal", 7), ("CashDeriver", 110, "no such account", 8), ("CashDeriver", 135, "an account has no such figure", 9), ("CashDeriver", 137, "no such journal", 10), ("CashDeriver", 157, "a journal has no such figure", 11)]
def vByt : List (List Int32) := [[99, 97, 115, 104], [119, 111, 114, 107], [105, 110, 99, 111, 109, 101], [105, 110, 118, 101, 115, 116], [102, 105, 110, 97, 110, 99, 101], [99, 117, 114, 114, 101, 110, 99, 121], [97, 99, 99, 111, 117, 110, 116], [106, 111, 117, 114, 110, 97, 108]]
def vLen : List Nat := [4, 4, 6, 6, 7, 8, 7, 7]
/-- the classes of the arrays, by their names -/
def vArr : List (String × Nat) := [("[I", 0), ("[B", 1), ("[J", 2), ("[LCashDeriver$Journal;", 3), ("[[I", 4)]
def vAs (w : vWd) (U : State) : Prop := (∀ q ∈ vArr, U.vm.findClass q.1 = some (vA w q.2)) ∧ va_AO "CashDeriver$Journal" U ∧ va_AOA .int U
theorem vAs.moved {w : vWd} {u U : State} (hvm : u.vm.Alike U.vm) (h : vAs w u) : vAs w U :=
  ⟨fun q hq => by rw [hvm.findClass]; exact h.1 q hq, va_AO.moved hvm h.2.1, va_AOA.moved hvm h.2.2⟩
/-- the constructors on the way from NoSuchElementException to Throwable: words that are kept apart -/
def vDecl : List MethodName := [Bundle.initS "java/lang/RuntimeException", Bundle.initS "java/lang/Exception", Bundle.initS Bundle.tN]
def vX (w : vWd) (A : Nat → Prop) (U : State) (H : Heap) : Prop :=
  (∀ q ∈ vNest, va_Nw (.methodLinkNest q.1 q.2.1 q.2.2.1 q.2.2.2) U) ∧ (∀ q ∈ vRefs, vk_R q.1 q.2.1 q.2.2.1 (w.2.2.1 q.2.2.2) U) ∧ vk_S 8 vLen vByt w.2.2.1 w.2.2.2 A U H ∧ va_Z "java/lang/String" "COMPACT_STRINGS" "Z" (.int 1) A U H ∧ va_Zq "jdk/internal/util/Preconditions" "SIOOBE_FORMATTER" "Ljava/util/function/BiFunction;" A U H ∧ vx_Zq Bundle.tN "UNASSIGNED_STACK" Bundle.steD A U H ∧ vx_Zq Bundle.tN "SUPPRESSED_SENTINEL" Bundle.listD A U H ∧ (∀ x ∈ vDecl, va_Nw (.declares x) U) ∧ va_Nw (.castable "java/util/NoSuchElementException" "java/util/NoSuchElementException") U ∧ vAs w U
theorem vX.warm {w : vWd} {A : Nat → Prop} {s U : State} {H : Heap} (hW : s.WarmedH U.vm) (h : vX w A s H) : vX w A U H :=
  ⟨fun q hq => (h.1 q hq).warmM hW, fun q hq => (h.2.1 q hq).warm hW, h.2.2.1.moved hW.alike, h.2.2.2.1.moved hW.alike, h.2.2.2.2.1.moved hW.alike, h.2.2.2.2.2.1.moved hW.alike, h.2.2.2.2.2.2.1.moved hW.alike, fun x hx => (h.2.2.2.2.2.2.2.1 x hx).warmD hW, h.2.2.2.2.2.2.2.2.1.warmC hW, vAs.moved hW.alike h.2.2.2.2.2.2.2.2.2⟩
theorem vX.same {w : vWd} {A : Nat → Prop} {s U : State} {H : Heap} (hv : U.vm = s.vm) (h : vX w A s H) : vX w A U H := by
  have ha : s.vm.Alike U.vm := by rw [hv]; exact Vm.Alike.refl _
  exact ⟨fun q hq => (h.1 q hq).same rfl hv.symm, fun q hq => (h.2.1 q hq).same hv, h.2.2.1.moved ha, h.2.2.2.1.moved ha, h.2.2.2.2.1.moved ha, h.2.2.2.2.2.1.moved ha, h.2.2.2.2.2.2.1.moved ha, fun x hx => (h.2.2.2.2.2.2.2.1 x hx).same rfl hv.symm, h.2.2.2.2.2.2.2.2.1.same rfl hv.symm, vAs.moved ha h.2.2.2.2.2.2.2.2.2⟩
theorem vX.kept {w : vWd} {A : Nat → Prop} {U : State} {H H1 : Heap} (h : vX w A U H) (hq : ∀ a : Nat, a < H.size → ¬ A a → H1[a]? = H[a]?) : vX w A U H1 :=
  ⟨h.1, h.2.1, h.2.2.1.kept hq, h.2.2.2.1.kept hq, h.2.2.2.2.1.kept hq, h.2.2.2.2.2.1.kept hq, h.2.2.2.2.2.2.1.kept hq, h.2.2.2.2.2.2.2⟩
theorem vX.narrow {w : vWd} {A B : Nat → Prop} {U : State} {H : Heap} (h : vX w A U H) (hAB : ∀ q, B q → A q) : vX w B U H :=
  ⟨h.1, h.2.1, h.2.2.1.narrow hAB, h.2.2.2.1.narrow hAB, h.2.2.2.2.1.narrow hAB, h.2.2.2.2.2.1.narrow hAB, h.2.2.2.2.2.2.1.narrow hAB, h.2.2.2.2.2.2.2⟩
/-! worlds as bags: order doesn't matter -/
theorem va_P_iff {D : va_G} {cl : List vw_C} {ws : va_W} {H : Heap} : va_P D cl ws H ↔ ∀ q ∈ ws, va_at D cl q H :=
  ⟨fun h q hq => by obtain ⟨i, hi⟩ := List.getElem?_of_mem hq; exact h i q hi, fun h k q hk => h q (List.mem_of_getElem? hk)⟩
theorem va_D_iff {A : Nat → Prop} {ws : va_W} : va_D A ws ↔ (ws.map (·.1)).Nodup ∧ ∀ q ∈ ws, A q.1 := by
  constructor
  · intro h
    refine ⟨?_, fun q hq => by obtain ⟨i, hi⟩ := List.getElem?_of_mem hq; exact h.2 i q hi⟩
    rw [List.Nodup, List.pairwise_iff_getElem]
    intro i j hi hj hij e
    rw [List.length_map] at hi hj
    simp only [List.getElem_map] at e
    have := h.1 i j ws[i] ws[j] (List.getElem?_eq_getElem hi) (List.getElem?_eq_getElem hj) e
    omega
  · rintro ⟨h1, h2⟩
    refine ⟨fun i j p q hi hj e => ?_, fun k q hk => h2 q (List.mem_of_getElem? hk)⟩
    rw [List.Nodup, List.pairwise_iff_getElem] at h1
    obtain ⟨li, ei⟩ := List.getElem?_eq_some_iff.mp hi
    obtain ⟨lj, ej⟩ := List.getElem?_eq_some_iff.mp hj
    have li' : i < (ws.map (·.1)).length := by rw [List.length_map]; exact li
    have lj' : j < (ws.map (·.1)).length := by rw [List.length_map]; exact lj
    rcases Nat.lt_trichotomy i j with c | c | c
    · exact absurd (by simp only [List.getElem_map, ei, ej]; exact e) (h1 i j li' lj' c)
    · exact c
    · exact absurd (by simp only [List.getElem_map, ei, ej]; exact e.symm) (h1 j i lj' li' c)
theorem va_P_perm {D : va_G} {cl : List vw_C} {ws ws' : va_W} {H : Heap} (hp : ws.Perm ws') (h : va_P D cl ws H) : va_P D cl ws' H :=
  va_P_iff.mpr fun q hq => va_P_iff.mp h q (hp.mem_iff.mpr hq)
theorem va_D_perm {A : Nat → Prop} {ws ws' : va_W} (hp : ws.Perm ws') (h : va_D A ws) : va_D A ws' :=
  va_D_iff.mpr ⟨(hp.map (·.1)).nodup (va_D_iff.mp h).1, fun q hq => (va_D_iff.mp h).2 q (hp.mem_iff.mpr hq)⟩
theorem va_D_left {A : Nat → Prop} {w1 w2 : va_W} (h : va_D A (w1 ++ w2)) : va_D A w1 := by
  rw [va_D_iff] at h ⊢
  rw [List.map_append] at h
  exact ⟨(List.nodup_append.mp h.1).1, fun q hq => h.2 q (List.mem_append_left _ hq)⟩
theorem va_P_left {D : va_G} {cl : List vw_C} {w1 w2 : va_W} {H : Heap} (h : va_P D cl (w1 ++ w2) H) : va_P D cl w1 H :=
  va_P_iff.mpr fun q hq => va_P_iff.mp h q (List.mem_append_left _ hq)
/-- behind a call: the callee's cells as they are now, the rest as it was -/
theorem v_join {A0 : Nat → Prop} {D : va_G} {cl : List vw_C} {wc wr w1 : va_W} {H H1 : Heap} (hP : va_P D cl (wc ++ wr) H) (hD : va_D A0 (wc ++ wr)) (hk : ∀ q : Nat, q < H.size → ¬ va_A wc H.size q → H1[q]? = H[q]?) (hF : ∀ q, va_A wc H.size q → A0 q) (hP1 : va_P D cl w1 H1) (hD1 : va_D (va_A wc H.size) w1) : va_P D cl (w1 ++ wr) H1 ∧ va_D A0 (w1 ++ wr) := by
  have hP' := va_P_iff.mp hP
  obtain ⟨hn, hA⟩ := va_D_iff.mp hD
  rw [List.map_append, List.nodup_append] at hn
  have apart : ∀ q ∈ wr, q.1 < H.size ∧ ¬ va_A wc H.size q.1 := by
    intro q hq
    have hl := (hP' q (List.mem_append_right _ hq)).lt
    refine ⟨hl, fun h => ?_⟩
    rcases h with ⟨k, e, h⟩ | h
    · exact hn.2.2 q.1 (List.mem_map.mpr ⟨(q.1, e), List.mem_of_getElem? h, rfl⟩) q.1 (List.mem_map.mpr ⟨q, hq, rfl⟩) rfl
    · omega
  refine ⟨va_P_iff.mpr fun q hq => ?_, va_D_iff.mpr ⟨?_, fun q hq => ?_⟩⟩
  · rcases List.mem_append.mp hq with h | h
    · exact va_P_iff.mp hP1 q h
    · exact (hP' q (List.mem_append_right _ h)).kept (hk q.1 (apart q h).1 (apart q h).2)
  · obtain ⟨n1, a1⟩ := va_D_iff.mp hD1
    rw [List.map_append, List.nodup_append]
    refine ⟨n1, hn.2.1, fun x hx y hy e => ?_⟩
    obtain ⟨q, hq, rfl⟩ := List.mem_map.mp hx
    obtain ⟨r, hr, rfl⟩ := List.mem_map.mp hy
    exact (apart r hr).2 (by rw [← e]; exact a1 q hq)
  · rcases List.mem_append.mp hq with h | h
    · exact hF _ ((va_D_iff.mp hD1).2 q h)
    · exact hA q (List.mem_append_right _ h)
theorem v_free {A0 : Nat → Prop} {wc wr : va_W} {H0 H : Heap} {locs : List Loc} (hD : va_D A0 (wc ++ wr)) (hS : va_S A0 H0 H locs) (hA : ∀ q, H0.size ≤ q → A0 q) : ∀ q, va_A wc H.size q → A0 q := by
  intro q h
  rcases h with ⟨k, e, h⟩ | h
  · exact (va_D_iff.mp hD).2 (q, e) (List.mem_append_left _ (List.mem_of_getElem? h))
  · exact hA q (Nat.le_trans hS.1 h)
