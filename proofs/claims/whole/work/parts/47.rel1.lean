/-! 47: the groups: both try the same ways in the same order -/
/-- the ways to part m more lines, many groups being there -/
def ex : Nat → Nat → List (List Nat)
  | 0, _ => [[]]
  | m + 1, many => (List.range (many + 1)).flatMap (fun g => (ex m (if g = many then many + 1 else many)).map (g :: ·))
def fnL (l : List Nat) : Nat → Nat := fun i => l.getD i 0
/-- one way tried -/
def wF (am s0 : Nat → Int32) (n : Nat) (v : Nat → Nat) (b : Nat × (Nat → Int32)) : Nat × (Nat → Int32) :=
  if b.1 < grp v (sm v am s0 n) n then (grp v (sm v am s0 n) n, tkw v b.2 n) else b
theorem hi_cg {v v' : Nat → Nat} : ∀ {n : Nat}, (∀ i, i < n → v i = v' i) → hi v n = hi v' n
  | 0, _ => rfl
  | n + 1, h => by rw [hi, hi, hi_cg (n := n) (fun i hi => h i (by omega)), h n (by omega)]
theorem sm_cg {v v' : Nat → Nat} {am s s' : Nat → Int32} (hs : ∀ i, i < 6 → s i = s' i) : ∀ {n : Nat}, (∀ i, i < n → v i = v' i) → ∀ i, i < 6 → sm v am s n i = sm v' am s' n i
  | 0, _, i, hi => hs i hi
  | n + 1, h, i, hi => by
    have ih := sm_cg (am := am) hs (n := n) (fun i hi => h i (by omega))
    rw [sm, sm, ← h n (by omega)]
    by_cases e : i = v n
    · subst e; rw [upd_s, upd_s, ih _ hi]
    · rw [upd_n e, upd_n e, ih _ hi]
theorem zz_cg {s s' : Nat → Int32} : ∀ {n : Nat}, (∀ i, i < n → s i = s' i) → zz s n = zz s' n
  | 0, _ => rfl
  | n + 1, h => by rw [zz, zz, zz_cg (n := n) (fun i hi => h i (by omega)), h n (by omega)]
theorem grp_cg {v v' : Nat → Nat} {am s s' : Nat → Int32} {n : Nat} (hs : ∀ i, i < 6 → s i = s' i) (h : ∀ i, i < n → v i = v' i) : grp v (sm v am s n) n = grp v' (sm v' am s' n) n := by
  unfold grp
  rw [zz_cg (sm_cg (am := am) hs h), hi_cg h]
theorem tkw_at {v : Nat → Nat} {f : Nat → Int32} : ∀ {n i : Nat}, i < n → tkw v f n i = nI (v i)
  | n + 1, i, h => by
    rw [tkw]
    by_cases e : i = n
    · subst e; rw [upd_s]
    · rw [upd_n e]; exact tkw_at (by omega)
/-- two finds alike: as many groups, and if there are any the same ones -/
def bAl (n : Nat) (b b' : Nat × (Nat → Int32)) : Prop := b.1 = b'.1 ∧ (0 < b.1 → ∀ i, i < n → b.2 i = b'.2 i)
theorem wF_al {am s s' : Nat → Int32} {n : Nat} {v v' : Nat → Nat} {b b' : Nat × (Nat → Int32)} (hs : ∀ i, i < 6 → s i = s' i) (h : ∀ i, i < n → v i = v' i) (hb : bAl n b b') : bAl n (wF am s n v b) (wF am s' n v' b') := by
  unfold wF
  rw [grp_cg hs h, hb.1]
  by_cases c : b'.1 < grp v' (sm v' am s' n) n
  · rw [if_pos c, if_pos c]
    refine ⟨rfl, fun _ i hi => ?_⟩
    show tkw v b.2 n i = tkw v' b'.2 n i
    rw [tkw_at hi, tkw_at hi, h i hi]
  · rw [if_neg c, if_neg c]
    exact hb
theorem wF_mono {am s : Nat → Int32} {n : Nat} {v : Nat → Nat} {b : Nat × (Nat → Int32)} : b.1 ≤ (wF am s n v b).1 := by
  unfold wF
  split
  · next h => exact Nat.le_of_lt h
  · exact Nat.le_refl _
/-! the class's order -/
theorem nx_cg : ∀ {k n : Nat} {v v' : Nat → Nat}, k < n → (∀ i, i < n → v i = v' i) → (nx k v).1 = (nx k v').1 ∧ ∀ i, i < n → (nx k v).2 i = (nx k v').2 i
  | 0, _, v, v', _, h => ⟨rfl, h⟩
  | k + 1, n, v, v', hk, h => by
    unfold nx
    rw [h (k + 1) hk, hi_cg (n := k + 1) (fun i hi => h i (by omega))]
    split
    · refine ⟨rfl, fun i hi => ?_⟩
      show uX v (k + 1) _ i = uX v' (k + 1) _ i
      by_cases e : i = k + 1
      · subst e; rw [uX_s, uX_s]
      · rw [uX_n e, uX_n e, h i hi]
    · refine nx_cg (by omega) (fun i hi => ?_)
      by_cases e : i = k + 1
      · subst e; rw [uX_s, uX_s]
      · rw [uX_n e, uX_n e, h i hi]
def chW (n : Nat) : List (List Nat) → Bool
  | [] => false
  | [l] => !(nx (n - 1) (fnL l)).1
  | l :: l' :: r => (nx (n - 1) (fnL l)).1 && decide (∀ i, i < n → (nx (n - 1) (fnL l)).2 i = fnL l' i) && chW n (l' :: r)
theorem prt_ch {am : Nat → Int32} {n : Nat} (h1 : 1 ≤ n) : ∀ (W : List (List Nat)) (m : Nat) (v : Nat → Nat) (s z : Nat → Int32) (l : List Nat) (best : Nat) (f : Nat → Int32) (b : Nat × (Nat → Int32)), chW n (l :: W) = true → W.length + 1 ≤ m → (∀ i, i < n → v i = fnL l i) → (∀ i, i < 6 → z i = 0) → bAl n (best, f) b →
    bAl n ((prt am n m true v s best f).2.2.1, (prt am n m true v s best f).2.2.2) ((l :: W).foldl (fun b e => wF am z n (fnL e) b) b)
  | [], m + 1, v, s, z, l, best, f, b, hc, hm, hv, hz, hb => by
    rw [prt]
    have hf : (nx (n - 1) v).1 = false := by
      rw [(nx_cg (k := n - 1) (by omega) hv).1]
      simpa [chW] using hc
    rw [hf]
    have hstep := wF_al (am := am) (s := z6 s) (s' := z) (v := v) (v' := fnL l) (fun i hi => by rw [z6_at s hi, hz i hi]) hv hb
    have hp : ∀ (m : Nat) (v : Nat → Nat) (s : Nat → Int32) (best : Nat) (f : Nat → Int32), prt am n m false v s best f = (v, s, best, f) := by
      intro m v s best f
      cases m <;> rfl
    rw [hp]
    show bAl n _ (wF am z n (fnL l) b)
    unfold wF at hstep ⊢
    split at hstep
    · next c => rw [if_pos c, if_pos c]; exact hstep
    · next c => rw [if_neg c, if_neg c]; exact hstep
  | l' :: W, m + 1, v, s, z, l, best, f, b, hc, hm, hv, hz, hb => by
    rw [prt]
    simp only [chW, Bool.and_eq_true, decide_eq_true_eq] at hc
    obtain ⟨⟨hc1, hc2⟩, hc3⟩ := hc
    obtain ⟨g1, g2⟩ := nx_cg (k := n - 1) (n := n) (by omega) hv
    rw [g1, hc1]
    have hstep := wF_al (am := am) (s := z6 s) (s' := z) (v := v) (v' := fnL l) (fun i hi => by rw [z6_at s hi, hz i hi]) hv hb
    have hn := prt_ch (am := am) h1 W m (nx (n - 1) v).2 (sm v am (z6 s) n) z l' (if best < grp v (sm v am (z6 s) n) n then grp v (sm v am (z6 s) n) n else best) (if best < grp v (sm v am (z6 s) n) n then tkw v f n else f) (wF am z n (fnL l) b) hc3 (by simp only [List.length_cons] at hm; omega) (fun i hi => by rw [g2 i hi, hc2 i hi]) hz (by
      unfold wF at hstep
      split at hstep
      · next c => rw [if_pos c, if_pos c]; exact hstep
      · next c => rw [if_neg c, if_neg c]; exact hstep)
    exact hn
theorem ch2 : chW 2 (ex 2 0) = true ∧ (ex 2 0).length ≤ 203 ∧ (ex 2 0).head? = some [0, 0] := by decide +kernel
theorem ch3 : chW 3 (ex 3 0) = true ∧ (ex 3 0).length ≤ 203 ∧ (ex 3 0).head? = some [0, 0, 0] := by decide +kernel
theorem ch4 : chW 4 (ex 4 0) = true ∧ (ex 4 0).length ≤ 203 ∧ (ex 4 0).head? = some [0, 0, 0, 0] := by decide +kernel
theorem ch5 : chW 5 (ex 5 0) = true ∧ (ex 5 0).length ≤ 203 ∧ (ex 5 0).head? = some [0, 0, 0, 0, 0] := by decide +kernel
theorem ch6 : chW 6 (ex 6 0) = true ∧ (ex 6 0).length ≤ 203 ∧ (ex 6 0).head? = some [0, 0, 0, 0, 0, 0] := by decide +kernel
/-! the reference's order -/
def cat (pre : Nat → Nat) (k : Nat) (e : List Nat) : Nat → Nat := fun i => if i < k then pre i else e.getD (i - k) 0
theorem sm_eq {v v' : Nat → Nat} {am s : Nat → Int32} : ∀ {n : Nat}, (∀ i, i < n → v i = v' i) → sm v am s n = sm v' am s n
  | 0, _ => rfl
  | n + 1, h => by rw [sm, sm, sm_eq (n := n) (fun i hi => h i (by omega)), h n (by omega)]
theorem sm_out {v : Nat → Nat} {am s : Nat → Int32} {j : Nat} : ∀ {n : Nat}, (∀ i, i < n → v i ≠ j) → sm v am s n j = s j
  | 0, _ => rfl
  | n + 1, h => by rw [sm, upd_n (fun e => h n (by omega) e.symm), sm_out (n := n) (fun i hi => h i (by omega))]
theorem hi_ge {v : Nat → Nat} : ∀ {n i : Nat}, i < n → v i ≤ hi v n
  | n + 1, i, h => by
    rw [hi]
    by_cases e : i = n
    · subst e; omega
    · have := hi_ge (v := v) (n := n) (i := i) (by omega); omega
theorem zz_more {s : Nat → Int32} {a : Nat} : ∀ {b : Nat}, a ≤ b → (∀ i, a ≤ i → i < b → s i = 0) → zz s a = zz s b
  | b, h, hz => by
    induction b with
    | zero => rw [show a = 0 by omega]
    | succ b ih =>
      by_cases e : a = b + 1
      · rw [e]
      · rw [zz, ih (by omega) (fun i h1 h2 => hz i h1 (by omega)), hz b (by omega) (by omega)]
        simp
theorem cpy_tkw {v : Nat → Nat} {r f : Nat → Int32} : ∀ {n : Nat}, (∀ i, i < n → r i = nI (v i)) → cpyR r f n = tkw v f n
  | 0, _ => rfl
  | n + 1, h => by rw [cpyR, tkw, cpy_tkw (n := n) (fun i hi => h i (by omega)), h n (by omega)]
theorem upd_back {s : Nat → Int32} {g : Nat} {a : Int32} : upd (upd s g (s g + a)) g (upd s g (s g + a) g - a) = s := by
  funext j
  by_cases e : j = g
  · subst e; rw [upd_s, upd_s]; exact Int32.add_sub_cancel _ _
  · rw [upd_n e, upd_n e]
/-- the state ahead of line k: pre is the way of the lines before it -/
def trV (am s0 : Nat → Int32) (pre : Nat → Nat) (k many : Nat) (S : TS) : Prop := (∀ i, i < k → S.1 i = nI (pre i)) ∧ S.2.1 = sm pre am s0 k ∧ many = (if k = 0 then 0 else hi pre k + 1)
theorem cat_s (pre : Nat → Nat) (k g : Nat) (e : List Nat) : cat pre k (g :: e) = cat (uX pre k g) (k + 1) e := by
  funext i
  unfold cat
  by_cases h : i < k
  · rw [if_pos h, if_pos (by omega), uX_n (by omega)]
  · by_cases h2 : i = k
    · subst h2
      rw [if_neg h, if_pos (by omega), uX_s, Nat.sub_self]
      rfl
    · rw [if_neg h, if_neg (by omega), show i - k = (i - (k + 1)) + 1 by omega]
      rfl
theorem tr_ex {am s0 : Nat → Int32} (hs0 : ∀ i, i < 6 → s0 i = 0) : ∀ (m k many : Nat) (S : TS) (pre : Nat → Nat), 1 ≤ k + m → k + m ≤ 6 → many ≤ k → trV am s0 pre k many S →
    (tr am m k many S).2.1 = S.2.1 ∧ (∀ i, i < k → (tr am m k many S).1 i = S.1 i) ∧ (tr am m k many S).2.2 = (ex m many).foldl (fun b e => wF am s0 (k + m) (cat pre k e) b) S.2.2 := by
  intro m
  induction m with
  | zero =>
    intro k many S pre h1 h6 hm hV
    obtain ⟨v1, v2, v3⟩ := hV
    rw [if_neg (by omega)] at v3
    have hc : ∀ i, i < k → cat pre k [] i = pre i := fun i hi => by unfold cat; rw [if_pos hi]
    have hz : zz S.2.1 many = zz (sm pre am s0 k) 6 := by
      rw [v2]
      refine zz_more (by omega) (fun i a b => ?_)
      rw [sm_out (fun j hj e => ?_), hs0 i b]
      have := hi_ge (v := pre) hj
      omega
    have hg : grp (cat pre k []) (sm (cat pre k []) am s0 k) k = if zz S.2.1 many = true then many else 0 := by
      unfold grp
      rw [sm_eq hc, hi_cg hc, hz, v3]
    have hcp : cpyR S.1 S.2.2.2 k = tkw (cat pre k []) S.2.2.2 k := cpy_tkw (fun i hi => by rw [v1 i hi, hc i hi])
    rw [tr, ex]
    show (trL k many S).2.1 = S.2.1 ∧ _ ∧ (trL k many S).2.2 = wF am s0 (k + 0) (cat pre k []) S.2.2
    unfold trL wF
    rw [Nat.add_zero, hg, ← hcp]
    by_cases c : zz S.2.1 many = true
    · rw [if_pos c]
      by_cases c2 : S.2.2.1 < many
      · rw [if_pos ⟨c, c2⟩, if_pos c2]
        exact ⟨rfl, fun _ _ => rfl, rfl⟩
      · rw [if_neg (fun q => c2 q.2), if_neg c2]
        exact ⟨rfl, fun _ _ => rfl, rfl⟩
    · rw [if_neg (fun q => c q.1), if_neg c, if_neg (by omega)]
      exact ⟨rfl, fun _ _ => rfl, rfl⟩
  | succ m ih =>
    intro k many S pre h1 h6 hm hV
    obtain ⟨v1, v2, v3⟩ := hV
    have hloop : ∀ G, G ≤ many + 1 → (foG (fun g S => trO am k g (tr am m (k + 1) (if g = many then many + 1 else many) (trI am k g S))) G S).2.1 = S.2.1 ∧ (∀ i, i < k → (foG (fun g S => trO am k g (tr am m (k + 1) (if g = many then many + 1 else many) (trI am k g S))) G S).1 i = S.1 i) ∧ (foG (fun g S => trO am k g (tr am m (k + 1) (if g = many then many + 1 else many) (trI am k g S))) G S).2.2 = ((List.range G).flatMap (fun g => (ex m (if g = many then many + 1 else many)).map (g :: ·))).foldl (fun b e => wF am s0 (k + (m + 1)) (cat pre k e) b) S.2.2 := by
      intro G
      induction G with
      | zero => intro _; exact ⟨rfl, fun _ _ => rfl, rfl⟩
      | succ g ihg =>
        intro hg
        obtain ⟨a1, a2, a3⟩ := ihg (by omega)
        rw [foG]
        generalize foG (fun g S => trO am k g (tr am m (k + 1) (if g = many then many + 1 else many) (trI am k g S))) g S = T at a1 a2 a3 ⊢
        have hV' : trV am s0 (uX pre k g) (k + 1) (if g = many then many + 1 else many) (trI am k g T) := by
          have hp : ∀ i, i < k → uX pre k g i = pre i := fun i hi => uX_n (by omega)
          refine ⟨fun i hi => ?_, ?_, ?_⟩
          · show upd T.1 k (nI g) i = nI (uX pre k g i)
            by_cases e : i = k
            · subst e; rw [upd_s, uX_s]
            · rw [upd_n e, uX_n e, a2 i (by omega), v1 i (by omega)]
          · show upd T.2.1 g (T.2.1 g + am k) = sm (uX pre k g) am s0 (k + 1)
            rw [sm, uX_s, sm_eq hp, a1, v2]
          · rw [show (if k + 1 = 0 then 0 else hi (uX pre k g) (k + 1) + 1) = hi (uX pre k g) (k + 1) + 1 from if_neg (by omega), hi, hi_cg hp, uX_s]
            by_cases k0 : k = 0
            · subst k0
              have hg0 : g = many := by omega
              rw [if_pos hg0]
              have : hi pre 0 = 0 := rfl
              omega
            · rw [if_neg k0] at v3
              by_cases hg0 : g = many
              · rw [if_pos hg0]; omega
              · rw [if_neg hg0]; omega
        obtain ⟨b1, b2, b3⟩ := ih (k + 1) (if g = many then many + 1 else many) (trI am k g T) (uX pre k g) (by omega) (by omega) (by split <;> omega) hV'
        generalize hU : tr am m (k + 1) (if g = many then many + 1 else many) (trI am k g T) = U at b1 b2 b3
        refine ⟨?_, fun i hi => ?_, ?_⟩
        · show upd U.2.1 g (U.2.1 g - am k) = S.2.1
          rw [b1, ← a1]
          exact upd_back
        · show U.1 i = S.1 i
          rw [b2 i (by omega)]
          show upd T.1 k (nI g) i = S.1 i
          rw [upd_n (by omega), a2 i hi]
        · show U.2.2 = _
          rw [b3, List.range_succ, List.flatMap_append, List.foldl_append, ← a3]
          simp only [List.flatMap_cons, List.flatMap_nil, List.append_nil, List.foldl_map]
          rw [show k + (m + 1) = k + 1 + m by omega]
          simp only [cat_s]
          rfl
    rw [tr, ex]
    exact hloop (many + 1) (by omega)
theorem cat_0 (pre : Nat → Nat) (e : List Nat) : cat pre 0 e = fnL e := by
  funext i
  unfold cat fnL
  rw [if_neg (by omega), Nat.sub_zero]
theorem fold_mono {am z : Nat → Int32} {n : Nat} : ∀ (W : List (List Nat)) (b : Nat × (Nat → Int32)), b.1 ≤ (W.foldl (fun b e => wF am z n (fnL e) b) b).1
  | [], b => Nat.le_refl _
  | e :: W, b => Nat.le_trans wF_mono (fold_mono W _)
theorem sm_zero {v : Nat → Nat} {am s : Nat → Int32} (h0 : ∀ i, i < 6 → v i = 0) (hs : s 0 = 0) : ∀ {n : Nat}, n ≤ 6 → sm v am s n 0 = isum am n
  | 0, _ => hs
  | n + 1, h => by rw [sm, h0 n (by omega), upd_s, sm_zero h0 hs (n := n) (by omega), isum]
theorem zsF_at {s : Nat → Int32} : ∀ {n i : Nat}, i < n → zsF s n i = 0
  | n + 1, i, h => by
    rw [zsF]
    by_cases e : i = n
    · subst e; rw [upd_s]
    · rw [upd_n e]; exact zsF_at (by omega)
theorem exs {n : Nat} (h2 : 2 ≤ n) (h6 : n ≤ 6) : ∃ W, ex n 0 = List.replicate n 0 :: W ∧ chW n (ex n 0) = true ∧ (ex n 0).length ≤ 203 := by
  have hh : chW n (ex n 0) = true ∧ (ex n 0).length ≤ 203 ∧ (ex n 0).head? = some (List.replicate n 0) := by
    rcases (show n = 2 ∨ n = 3 ∨ n = 4 ∨ n = 5 ∨ n = 6 by omega) with rfl | rfl | rfl | rfl | rfl
    · exact ch2
    · exact ch3
    · exact ch4
    · exact ch5
    · exact ch6
  cases he : ex n 0 with
  | nil => rw [he] at hh; exact absurd hh.2.2 (by simp)
  | cons l W =>
    rw [he] at hh
    have : l = List.replicate n 0 := Option.some.inj hh.2.2
    subst this
    exact ⟨W, rfl, hh.1, hh.2.1⟩
/-- both find the same groups -/
theorem groups_eq {am s s' r f f' : Nat → Int32} {v : Nat → Nat} {n : Nat} (h2 : 2 ≤ n) (h6 : n ≤ 6) (hsum : isum am n = 0) :
    (tr am n 0 0 (r, zsF s 6, 0, f)).2.2.1 = (prt am n 203 true (v0 v) s' 0 f').2.2.1 ∧ (∀ i, i < n → (tr am n 0 0 (r, zsF s 6, 0, f)).2.2.2 i = (prt am n 203 true (v0 v) s' 0 f').2.2.2 i) ∧ 1 ≤ (tr am n 0 0 (r, zsF s 6, 0, f)).2.2.1 := by
  obtain ⟨W, hW, hc, hlen⟩ := exs h2 h6
  have hz : ∀ i, i < 6 → zsF s 6 i = 0 := fun i hi => zsF_at hi
  obtain ⟨-, -, t3⟩ := tr_ex (am := am) hz n 0 0 (r, zsF s 6, 0, f) (fun _ => 0) (by omega) (by omega) (Nat.le_refl _) ⟨fun i hi => absurd hi (by omega), rfl, rfl⟩
  simp only [cat_0, Nat.zero_add] at t3
  rw [hW] at hc hlen
  have hp := prt_ch (am := am) (n := n) (by omega) W 203 (v0 v) s' (zsF s 6) (List.replicate n 0) 0 f' (0, f) hc (by simpa using hlen) (fun i hi => by
    have : v0 v i = 0 := by
      rcases (show i = 0 ∨ i = 1 ∨ i = 2 ∨ i = 3 ∨ i = 4 ∨ i = 5 by omega) with rfl | rfl | rfl | rfl | rfl | rfl <;> simp [v0, uX]
    rw [this, fnL]
    simp [hi]) hz ⟨rfl, fun q => absurd q (by omega)⟩
  rw [← hW] at hp
  have hfold : ((ex n 0).foldl (fun b e => wF am (zsF s 6) n (fnL e) b) (0, f)) = (tr am n 0 0 (r, zsF s 6, 0, f)).2.2 := t3.symm
  have hone : 1 ≤ ((ex n 0).foldl (fun b e => wF am (zsF s 6) n (fnL e) b) (0, f)).1 := by
    rw [hW]
    refine Nat.le_trans ?_ (fold_mono W _)
    have h0 : ∀ i, i < 6 → fnL (List.replicate n 0) i = 0 := fun i hi => by
      unfold fnL
      by_cases c : i < n
      · simp [c]
      · simp [c]
    have hg : grp (fnL (List.replicate n 0)) (sm (fnL (List.replicate n 0)) am (zsF s 6) n) n = hi (fnL (List.replicate n 0)) n + 1 := by
      unfold grp
      rw [if_pos]
      have e0 : sm (fnL (List.replicate n 0)) am (zsF s 6) n 0 = 0 := by rw [sm_zero h0 (hz 0 (by omega)) h6, hsum]
      have ei : ∀ j, 1 ≤ j → j < 6 → sm (fnL (List.replicate n 0)) am (zsF s 6) n j = 0 := fun j a b => by
        rw [sm_out (fun i hi e => by rw [h0 i (by omega)] at e; omega), hz j b]
      simp [zz, e0, ei]
    show 1 ≤ (wF am (zsF s 6) n (fnL (List.replicate n 0)) (0, f)).1
    unfold wF
    rw [hg, if_pos (by show 0 < _; omega)]
    show 1 ≤ hi _ n + 1
    omega
  rw [hfold] at hp hone
  refine ⟨hp.1.symm, fun i hi => (hp.2 ?_ i hi).symm, hone⟩
  rw [hp.1]
  exact hone
