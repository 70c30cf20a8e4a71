/-! 52: traced: the same journals explain it -/
theorem fnd_cg {f g : Nat → Option Int32} : ∀ {n t : Nat}, (∀ x, t ≤ x → x < t + n → f x = g x) → fnd f n t = fnd g n t
  | 0, _, _ => rfl
  | n + 1, t, h => by rw [fnd, fnd, h t (by omega) (by omega), fnd_cg (n := n) (t := t + 1) (fun x a b => h x (by omega) (by omega))]
theorem fnd_sh (f : Nat → Option Int32) : ∀ n t, fnd f n (t + 1) = fnd (fun x => f (x + 1)) n t
  | 0, _ => rfl
  | n + 1, t => by rw [fnd, fnd, fnd_sh f n (t + 1)]
theorem fnd_no {f : Nat → Option Int32} : ∀ {n t : Nat}, (∀ x, t ≤ x → x < t + n → f x = none) → fnd f n t = none
  | 0, _, _ => rfl
  | n + 1, t, h => by rw [fnd, h t (by omega) (by omega)]; exact fnd_no (fun x a b => h x (by omega) (by omega))
theorem fnd_add (f : Nat → Option Int32) (r : Nat) : ∀ n t, fnd f (n + r) t = match fnd f n t with | some v => some v | none => fnd f r (t + n)
  | 0, t => by rw [Nat.zero_add]; rfl
  | n + 1, t => by
    rw [show n + 1 + r = n + r + 1 by omega, fnd, fnd]
    cases f t with
    | some v => rfl
    | none =>
      show fnd f (n + r) (t + 1) = match fnd f n (t + 1) with | some v => some v | none => fnd f r (t + (n + 1))
      rw [fnd_add f r n (t + 1), show t + 1 + n = t + (n + 1) by omega]
theorem fnd_e (f : Nat → Option Int32) (n : Nat) : fnd f (n + 1) 0 = match fnd f n 0 with | some v => some v | none => f n := by
  rw [fnd_add f 1 n 0, Nat.zero_add]
  cases fnd f n 0 with
  | some v => rfl
  | none =>
    show fnd f 1 n = f n
    rw [fnd]
    cases f n <;> rfl
theorem fnd_1 (f : Nat → Option Int32) (t : Nat) : fnd f 1 t = f t := by
  rw [fnd]
  cases f t <;> rfl
theorem fnd_lo {f : Nat → Option Int32} (h : f 0 = none) : ∀ n, fnd f n 0 = fnd f (n - 1) 1
  | 0 => rfl
  | n + 1 => by rw [fnd, h]; rfl
theorem fnd_lo2 {f : Nat → Option Int32} (h : f 0 = none) (h1 : f 1 = none) : ∀ n, fnd f n 0 = fnd f (n - 2) 2
  | 0 => rfl
  | 1 => by rw [fnd_1, h]; rfl
  | n + 2 => by rw [fnd, h]; show fnd f (n + 1) 1 = fnd f n 2; rw [fnd, h1]
theorem fnd_some {f : Nat → Option Int32} : ∀ {n t : Nat} {v : Int32}, fnd f n t = some v → ∃ x, t ≤ x ∧ x < t + n ∧ f x = some v
  | 0, _, _, h => by cases h
  | n + 1, t, v, h => by
    rw [fnd] at h
    cases e : f t with
    | some u =>
      rw [e] at h
      exact ⟨t, by omega, by omega, by rw [e]; exact h⟩
    | none =>
      rw [e] at h
      obtain ⟨x, a, b, c⟩ := fnd_some h
      exact ⟨x, by omega, by omega, c⟩
/-! the journals that count -/
theorem gK_at (B : BP) : ∀ n i, i < (gK B n).1 → (gK B n).2 i < n ∧ bCnt B ((gK B n).2 i) 0 19 = true ∧ (gK B ((gK B n).2 i)).1 = i ∧ ∀ k, k < i → (gK B ((gK B n).2 i)).2 k = (gK B n).2 k
  | 0, i, h => absurd h (Nat.not_lt_zero i)
  | n + 1, i, h => by
    rw [gK] at h ⊢
    by_cases hc : bCnt B n 0 19 = true
    · rw [if_pos hc] at h ⊢
      have h' : i < (gK B n).1 + 1 := h
      show uX (gK B n).2 (gK B n).1 n i < n + 1 ∧ bCnt B (uX (gK B n).2 (gK B n).1 n i) 0 19 = true ∧ (gK B (uX (gK B n).2 (gK B n).1 n i)).1 = i ∧ ∀ k, k < i → (gK B (uX (gK B n).2 (gK B n).1 n i)).2 k = uX (gK B n).2 (gK B n).1 n k
      by_cases e : i = (gK B n).1
      · subst e
        rw [uX_s]
        exact ⟨by omega, hc, rfl, fun k hk => (uX_n (by omega)).symm⟩
      · obtain ⟨a, b, c, d⟩ := gK_at B n i (by omega)
        rw [uX_n e]
        exact ⟨by omega, b, c, fun k hk => by rw [d k hk]; exact (uX_n (by omega)).symm⟩
    · rw [if_neg hc] at h ⊢
      obtain ⟨a, b, c, d⟩ := gK_at B n i h
      exact ⟨by omega, b, c, d⟩
theorem fnd_K (B : BP) (h : Nat → Option Int32) : ∀ n, fnd (fun X => if bCnt B X 0 19 = true then h X else none) n 0 = fnd (fun i => h ((gK B n).2 i)) (gK B n).1 0
  | 0 => rfl
  | n + 1 => by
    rw [fnd_e, fnd_K B h n, gK]
    by_cases hc : bCnt B n 0 19 = true
    · rw [if_pos hc, if_pos hc]
      show _ = fnd (fun i => h (uX (gK B n).2 (gK B n).1 n i)) ((gK B n).1 + 1) 0
      rw [fnd_e, uX_s]
      rw [fnd_cg (f := fun i => h (uX (gK B n).2 (gK B n).1 n i)) (g := fun i => h ((gK B n).2 i)) (fun x _ hx => by rw [uX_n (by omega)])]
    · rw [if_neg hc, if_neg hc]
      cases fnd (fun i => h ((gK B n).2 i)) (gK B n).1 0 <;> rfl
/-- the first that counts among the journals below 30, by their numbers -/
theorem fnd_B {B : BP} (hB : okB B) (h : Nat → Option Int32) : fnd (fun X => if bCnt B X 0 19 = true then h X else none) B.2.1 0 = fnd (fun i => h ((gK B 30).2 i)) (gK B 30).1 0 := by
  have h30 := hB.2.1
  rw [← fnd_K B h 30, show 30 = B.2.1 + (30 - B.2.1) by omega, fnd_add, Nat.zero_add, fnd_no (n := 30 - B.2.1) (t := B.2.1) (fun x a b => by
    rw [if_neg]
    unfold bCnt
    simp only [Bool.and_eq_true, decide_eq_true_eq]
    intro q
    omega)]
  cases fnd (fun X => if bCnt B X 0 19 = true then h X else none) B.2.1 0 <;> rfl
/-! shares and excesses -/
theorem gSh_row (B : BP) (g : Nat → Nat) (S : Nat → Nat → Int32) (na : Nat) (x : Int32) : ∀ n r, gSh B g S na x n r = if r < n then upd (S r) na (jNet (B.2.2.2 (g r)) x (B.2.2.2 (g r)).2.1) else S r
  | 0, r => by rw [if_neg (by omega)]; rfl
  | n + 1, r => by
    rw [gSh]
    by_cases e : r = n
    · subst e
      rw [uX_s, gSh_row B g S na x r r, if_neg (by omega), if_pos (by omega)]
    · rw [uX_n e, gSh_row B g S na x n r]
      by_cases h : r < n
      · rw [if_pos h, if_pos (by omega)]
      · rw [if_neg h, if_neg (by omega)]
theorem gA_spec (B : BP) (g : Nat → Nat) (m : Nat) (e : Nat → Int32) (S : Nat → Nat → Int32) : ∀ n, ∃ al : Nat → Nat, (∀ k, k < (gA B g m e S n).1 → al k < n ∧ bIsT B (nI (al k)) = true ∧ (gA B g m e S n).2.1 k = -bRes B (nI (al k)) ∧ ∀ x, x < m → (gA B g m e S n).2.2 x k = jNet (B.2.2.2 (g x)) (nI (al k)) (B.2.2.2 (g x)).2.1) ∧ (∀ a, a < n → bIsT B (nI a) = true → ∃ k, k < (gA B g m e S n).1 ∧ al k = a) ∧ ∀ x, m ≤ x → (gA B g m e S n).2.2 x = S x
  | 0 => ⟨fun _ => 0, fun k hk => absurd hk (Nat.not_lt_zero k), fun a ha => absurd ha (Nat.not_lt_zero a), fun _ _ => rfl⟩
  | n + 1 => by
    obtain ⟨al, h1, h2, h3⟩ := gA_spec B g m e S n
    rw [gA]
    by_cases hc : bIsT B (nI n) = true
    · rw [if_pos hc]
      refine ⟨uX al (gA B g m e S n).1 n, fun k hk => ?_, fun a ha ht => ?_, fun x hx => ?_⟩
      · have hk' : k < (gA B g m e S n).1 + 1 := hk
        show uX al (gA B g m e S n).1 n k < n + 1 ∧ bIsT B (nI (uX al (gA B g m e S n).1 n k)) = true ∧ upd (gA B g m e S n).2.1 (gA B g m e S n).1 (-bRes B (nI n)) k = -bRes B (nI (uX al (gA B g m e S n).1 n k)) ∧ ∀ x, x < m → gSh B g (gA B g m e S n).2.2 (gA B g m e S n).1 (nI n) m x k = jNet (B.2.2.2 (g x)) (nI (uX al (gA B g m e S n).1 n k)) (B.2.2.2 (g x)).2.1
        by_cases ek : k = (gA B g m e S n).1
        · subst ek
          rw [uX_s, upd_s]
          refine ⟨by omega, hc, rfl, fun x hx => ?_⟩
          rw [gSh_row, if_pos hx, upd_s]
        · obtain ⟨a, b, c, d⟩ := h1 k (by omega)
          rw [uX_n ek, upd_n ek]
          refine ⟨by omega, b, c, fun x hx => ?_⟩
          rw [gSh_row, if_pos hx, upd_n ek]
          exact d x hx
      · by_cases ea : a = n
        · subst ea
          exact ⟨(gA B g m e S a).1, by show (gA B g m e S a).1 < (gA B g m e S a).1 + 1; omega, uX_s⟩
        · obtain ⟨k, hk, hal⟩ := h2 a (by omega) ht
          exact ⟨k, by show k < (gA B g m e S n).1 + 1; omega, by rw [uX_n (by omega)]; exact hal⟩
      · show gSh B g (gA B g m e S n).2.2 (gA B g m e S n).1 (nI n) m x = S x
        rw [gSh_row, if_neg (by omega)]
        exact h3 x hx
    · rw [if_neg hc]
      refine ⟨al, fun k hk => ?_, fun a ha ht => ?_, h3⟩
      · obtain ⟨a, b, c, d⟩ := h1 k hk
        exact ⟨by omega, b, c, d⟩
      · by_cases ea : a = n
        · subst ea; exact absurd ht hc
        · exact h2 a (by omega) ht
theorem isT_lt {B : BP} (hB : okB B) {a : Nat} (ha : a < 12) (h : bIsT B (nI a) = true) : a < B.1 := by
  by_cases c : a < B.1
  · exact c
  · exfalso
    unfold bIsT bTold at h
    rw [inA_nI hB.1 (by omega), if_neg (by simp [c])] at h
    exact absurd h (by decide)
/-- how the class's rows stand for the reference's numbers: 30 for none -/
def xRel (B : BP) (x X : Nat) : Prop := (x < (gK B 30).1 ∧ X = (gK B 30).2 x + 1) ∨ (x = 30 ∧ X = 0)
theorem sEx_eq {B : BP} {N O : Nat → Int32} {Q : SP} (h : bRel B N) (hO : ∀ i, i < B.1 → O i = bRes B (nI i)) (hQ : ∀ i, Q.2.2.2.2 30 i = 0) {x y z X Y Z : Nat} (hx : xRel B x X) (hy : xRel B y Y) (hz : xRel B z Z) : sEx (tQ B Q) x y z = mEx N O (rNl B) B.1 X Y Z := by
  have hm : (gJ B Q.2.2.1 30).1 = (gK B 30).1 := (gJ_gK B Q.2.2.1 30).1
  have hle : (gK B 30).1 ≤ 30 := by rw [← hm]; exact gJ_le B Q.2.2.1 30
  obtain ⟨al, h1, h2, h3⟩ := gA_spec B (gK B 30).2 (gK B 30).1 Q.2.2.2.1 Q.2.2.2.2 12
  have e1 : (tQ B Q).2.1 = (gA B (gK B 30).2 (gK B 30).1 Q.2.2.2.1 Q.2.2.2.2 12).1 := by rw [← hm]; rfl
  have e2 : (tQ B Q).2.2.2.1 = (gA B (gK B 30).2 (gK B 30).1 Q.2.2.2.1 Q.2.2.2.2 12).2.1 := by rw [← hm]; rfl
  have e3 : (tQ B Q).2.2.2.2 = (gA B (gK B 30).2 (gK B 30).1 Q.2.2.2.1 Q.2.2.2.2 12).2.2 := by rw [← hm]; rfl
  have hrow : ∀ {x X : Nat}, xRel B x X → ∀ k, k < (gA B (gK B 30).2 (gK B 30).1 Q.2.2.2.1 Q.2.2.2.2 12).1 → (tQ B Q).2.2.2.2 x k = sM N (rNl B) (al k) X := by
    intro x X hx k hk
    rw [e3]
    rcases hx with ⟨a, b⟩ | ⟨a, b⟩
    · subst b
      rw [(h1 k hk).2.2.2 x a]
      show _ = mNet N ((gK B 30).2 x) (nI (al k)) (rNl B ((gK B 30).2 x))
      have hlt : (gK B 30).2 x < B.2.1 := by
        have hb := (gK_at B 30 x a).2.1
        unfold bCnt at hb
        simp only [Bool.and_eq_true, decide_eq_true_eq] at hb
        exact hb.1
      exact (r_net (h.2.2.2.2 _ hlt) _ (Nat.le_refl _)).symm
    · subst b
      rw [a, h3 30 hle, hQ]
  unfold sEx mEx
  refine decide_eq_decide.mpr ⟨fun q i hi => ?_, fun q k hk => ?_⟩
  · obtain ⟨-, -, t1, -⟩ := r_acc h hi
    rw [t1]
    by_cases ht : bIsT B (nI i) = true
    · right
      obtain ⟨k, hk, hal⟩ := h2 i (by have := h.1.1; omega) ht
      have := q k (by rw [e1]; exact hk)
      rw [hrow hx k hk, hrow hy k hk, hrow hz k hk, e2, (h1 k hk).2.2.1, hal] at this
      show O i + sM N (rNl B) i X + sM N (rNl B) i Y + sM N (rNl B) i Z = 0
      rw [hO i hi]
      grind
    · left
      have : bIsT B (nI i) = false := by cases e : bIsT B (nI i) <;> simp_all
      rw [this]
      rfl
  · rw [e1] at hk
    rw [hrow hx k hk, hrow hy k hk, hrow hz k hk, e2, (h1 k hk).2.2.1]
    have hlt := isT_lt h.1 (h1 k hk).1 (h1 k hk).2.1
    obtain ⟨-, -, t1, -⟩ := r_acc h hlt
    rcases q (al k) hlt with p | p
    · rw [t1, (h1 k hk).2.1] at p
      exact absurd p (by decide)
    · have p' : O (al k) + sM N (rNl B) (al k) X + sM N (rNl B) (al k) Y + sM N (rNl B) (al k) Z = 0 := p
      rw [hO _ hlt] at p'
      grind
def tH1 (B : BP) (N O : Nat → Int32) (X : Nat) : Option Int32 := if mEx N O (rNl B) B.1 (X + 1) 0 0 = true then some (bitS (X + 1)) else none
def tH2 (B : BP) (N O : Nat → Int32) (X : Nat) : Option Int32 := fnd (fun Y => if bCnt B Y 0 19 = true then (if mEx N O (rNl B) B.1 (X + 1) (Y + 1) 0 = true then some (bitS (X + 1) ||| bitS (Y + 1)) else none) else none) X 0
def tH3 (B : BP) (N O : Nat → Int32) (X : Nat) : Option Int32 := fnd (fun Y => if bCnt B Y 0 19 = true then fnd (fun Z => if bCnt B Z 0 19 = true then (if mEx N O (rNl B) B.1 (X + 1) (Y + 1) (Z + 1) = true then some (bitS (X + 1) ||| bitS (Y + 1) ||| bitS (Z + 1)) else none) else none) Y 0 else none) X 0
theorem bit_1 : ∀ i : Nat, i < 30 → (1 : Int32) <<< (nI i &&& 31) ≠ -1 := by decide +kernel
theorem bit_2 : ∀ i : Nat, i < 30 → ∀ j : Nat, j < 30 → (1 : Int32) <<< (nI i &&& 31) ||| (1 : Int32) <<< (nI j &&& 31) ≠ -1 := by decide +kernel
theorem r_traced {B : BP} {N O : Nat → Int32} {Q : SP} (h : bRel B N) (hO : ∀ i, i < B.1 → O i = bRes B (nI i)) (hQ : ∀ i, Q.2.2.2.2 30 i = 0) : mTr N O (rNl B) B.1 B.2.1 = tR (tQ B Q) := by
  have h30 := h.1.2.1
  have hm : (tQ B Q).1 = (gK B 30).1 := (gJ_gK B Q.2.2.1 30).1
  have hgl : ∀ i, i < (gK B 30).1 → (gK B 30).2 i < B.2.1 := fun i hi => by
    have hb := (gK_at B 30 i hi).2.1
    unfold bCnt at hb
    simp only [Bool.and_eq_true, decide_eq_true_eq] at hb
    exact hb.1
  have hbit : ∀ i, i < (gK B 30).1 → sBit (tQ B Q) i = bitS ((gK B 30).2 i + 1) := fun i hi => by
    have e : (tQ B Q).2.2.1 i = nI ((gK B 30).2 i) := ((gJ_gK B Q.2.2.1 30).2 i hi).1
    unfold sBit
    rw [e]
  have x30 : xRel B 30 0 := Or.inr ⟨rfl, rfl⟩
  have xg : ∀ i, i < (gK B 30).1 → xRel B i ((gK B 30).2 i + 1) := fun i hi => Or.inl ⟨hi, rfl⟩
  have hc : ∀ j, j < B.2.1 → cntd N (j + 1) = bCnt B j 0 19 := fun j hj => by
    have e := r_cnt20 h hj
    rw [← e]
    obtain ⟨j1, j2, j3, -⟩ := h.2.2.2.2 j hj
    show decide (N (50 + 15 * j + 1) = 0) = mCnt N j 0 20
    unfold mCnt isInB
    rw [j1, decide_eq_true j2.1, decide_eq_true (Int32.le_of_lt j2.2)]
    simp
  -- none
  have r0 : trM0 N O (rNl B) B.1 B.2.1 = if sEx (tQ B Q) 30 30 30 = true then some 0 else none := by
    unfold trM0
    rw [show 1 - 0 = 1 from rfl, fnd_1, fnd_1, fnd_1, sEx_eq h hO hQ x30 x30 x30]
    unfold tG
    simp only [cntd, Bool.true_and]
    rfl
  -- one
  have r1 : trM1 N O (rNl B) B.1 B.2.1 = fnd (fun x => sF1 (tQ B Q) x) ((tQ B Q).1 - 0) 0 := by
    unfold trM1
    rw [show B.2.1 + 1 - 1 = B.2.1 by omega, fnd_sh, hm, show (gK B 30).1 - 0 = (gK B 30).1 from rfl]
    simp only [show 1 - 0 = 1 from rfl, fnd_1]
    rw [fnd_cg (f := fun i => sF1 (tQ B Q) i) (g := fun i => tH1 B N O ((gK B 30).2 i)) (fun i _ hi => by
      unfold sF1 tH1
      rw [sEx_eq h hO hQ (xg i (by omega)) x30 x30, hbit i (by omega)])]
    refine Eq.trans ?_ (fnd_B h.1 (tH1 B N O))
    refine fnd_cg (fun X _ hX => ?_)
    unfold tH1
    unfold tG
    rw [hc X (by omega)]
    by_cases cX : bCnt B X 0 19 = true
    · rw [if_pos cX, cX]
      simp only [cntd, Bool.true_and]
      split
      · show some (bitS (X + 1) ||| 0 ||| 0) = some (bitS (X + 1))
        rw [Int32.or_zero, Int32.or_zero]
      · rfl
    · rw [if_neg cX, if_neg (by simp [cX])]
  -- two
  have r2 : trM2 N O (rNl B) B.1 B.2.1 = fnd (fun x => fnd (fun y => sF2 (tQ B Q) x y) (x - 0) 0) ((tQ B Q).1 - 1) 1 := by
    unfold trM2
    rw [show B.2.1 + 1 - 2 = B.2.1 - 1 by omega, fnd_sh, hm]
    have inn : ∀ x, fnd (fun y => fnd (fun z => tG N O (rNl B) B.1 (x + 1) y z) (1 - 0) 0) (x + 1 - 1) 1 = fnd (fun y => tG N O (rNl B) B.1 (x + 1) (y + 1) 0) x 0 := fun x => by
      rw [Nat.add_sub_cancel, fnd_sh]
      exact fnd_cg (fun y _ _ => fnd_1 _ 0)
    rw [fnd_cg (g := fun x => fnd (fun y => tG N O (rNl B) B.1 (x + 1) (y + 1) 0) x 0) (fun x _ _ => inn x)]
    show _ = fnd (fun x => fnd (fun y => sF2 (tQ B Q) x y) x 0) ((gK B 30).1 - 1) 1
    rw [← fnd_lo (f := fun x => fnd (fun y => tG N O (rNl B) B.1 (x + 1) (y + 1) 0) x 0) rfl, ← fnd_lo (f := fun x => fnd (fun y => sF2 (tQ B Q) x y) x 0) rfl]
    have key : ∀ i, i < (gK B 30).1 → fnd (fun y => sF2 (tQ B Q) i y) i 0 = fnd (fun Y => if bCnt B Y 0 19 = true then (if mEx N O (rNl B) B.1 ((gK B 30).2 i + 1) (Y + 1) 0 = true then some (bitS ((gK B 30).2 i + 1) ||| bitS (Y + 1)) else none) else none) ((gK B 30).2 i) 0 := fun i hi => by
      obtain ⟨a, b, c, d⟩ := gK_at B 30 i hi
      rw [fnd_K B (fun Y => if mEx N O (rNl B) B.1 ((gK B 30).2 i + 1) (Y + 1) 0 = true then some (bitS ((gK B 30).2 i + 1) ||| bitS (Y + 1)) else none), c]
      refine fnd_cg (fun k _ hk => ?_)
      rw [d k (by omega)]
      unfold sF2
      rw [sEx_eq h hO hQ (xg i hi) (xg k (by omega)) x30, hbit i hi, hbit k (by omega)]
    rw [fnd_cg (f := fun x => fnd (fun y => sF2 (tQ B Q) x y) x 0) (g := fun i => tH2 B N O ((gK B 30).2 i)) (fun i _ hi => key i (by omega))]
    refine Eq.trans ?_ (fnd_B h.1 (tH2 B N O))
    refine fnd_cg (fun X _ hX => ?_)
    unfold tH2
    by_cases cX : bCnt B X 0 19 = true
    · rw [if_pos cX]
      refine fnd_cg (fun Y _ hY => ?_)
      unfold tG
      rw [hc X (by omega), hc Y (by omega), cX]
      by_cases cY : bCnt B Y 0 19 = true
      · rw [if_pos cY, cY]
        simp only [cntd, Bool.true_and]
        split
        · show some (bitS (X + 1) ||| bitS (Y + 1) ||| 0) = some (bitS (X + 1) ||| bitS (Y + 1))
          rw [Int32.or_zero]
        · rfl
      · rw [if_neg cY, if_neg (by simp [cY])]
    · rw [if_neg cX]
      refine fnd_no (fun Y _ hY => ?_)
      unfold tG
      rw [hc X (by omega), if_neg (by simp [cX])]
  -- three
  have r3 : trM3 N O (rNl B) B.1 B.2.1 = fnd (fun x => fnd (fun y => fnd (fun z => sF3 (tQ B Q) x y z) (y - 0) 0) (x - 1) 1) ((tQ B Q).1 - 2) 2 := by
    unfold trM3
    rw [show B.2.1 + 1 - 3 = B.2.1 - 2 by omega, fnd_sh, hm]
    have inn : ∀ x, fnd (fun y => fnd (fun z => tG N O (rNl B) B.1 (x + 1) y z) (y - 1) 1) (x + 1 - 2) 2 = fnd (fun y => fnd (fun z => tG N O (rNl B) B.1 (x + 1) (y + 1) (z + 1)) y 0) x 0 := fun x => by
      rw [show x + 1 - 2 = x - 1 by omega, fnd_sh, fnd_lo (f := fun y => fnd (fun z => tG N O (rNl B) B.1 (x + 1) (y + 1) (z + 1)) y 0) rfl x]
      exact fnd_cg (fun y _ _ => by rw [Nat.add_sub_cancel, fnd_sh])
    rw [fnd_cg (g := fun x => fnd (fun y => fnd (fun z => tG N O (rNl B) B.1 (x + 1) (y + 1) (z + 1)) y 0) x 0) (fun x _ _ => inn x)]
    have lo2 : ∀ x : Nat, fnd (fun y => fnd (fun z => sF3 (tQ B Q) x y z) (y - 0) 0) (x - 1) 1 = fnd (fun y => fnd (fun z => sF3 (tQ B Q) x y z) y 0) x 0 := fun x => (fnd_lo (f := fun y => fnd (fun z => sF3 (tQ B Q) x y z) y 0) rfl x).symm
    rw [fnd_cg (f := fun x => fnd (fun y => fnd (fun z => sF3 (tQ B Q) x y z) (y - 0) 0) (x - 1) 1) (g := fun x => fnd (fun y => fnd (fun z => sF3 (tQ B Q) x y z) y 0) x 0) (fun x _ _ => lo2 x)]
    rw [← fnd_lo2 (f := fun x => fnd (fun y => fnd (fun z => tG N O (rNl B) B.1 (x + 1) (y + 1) (z + 1)) y 0) x 0) rfl rfl, ← fnd_lo2 (f := fun x => fnd (fun y => fnd (fun z => sF3 (tQ B Q) x y z) y 0) x 0) rfl rfl]
    have key : ∀ i, i < (gK B 30).1 → fnd (fun y => fnd (fun z => sF3 (tQ B Q) i y z) y 0) i 0 = fnd (fun Y => if bCnt B Y 0 19 = true then fnd (fun Z => if bCnt B Z 0 19 = true then (if mEx N O (rNl B) B.1 ((gK B 30).2 i + 1) (Y + 1) (Z + 1) = true then some (bitS ((gK B 30).2 i + 1) ||| bitS (Y + 1) ||| bitS (Z + 1)) else none) else none) Y 0 else none) ((gK B 30).2 i) 0 := fun i hi => by
      obtain ⟨a, b, c, d⟩ := gK_at B 30 i hi
      rw [fnd_K B (fun Y => fnd (fun Z => if bCnt B Z 0 19 = true then (if mEx N O (rNl B) B.1 ((gK B 30).2 i + 1) (Y + 1) (Z + 1) = true then some (bitS ((gK B 30).2 i + 1) ||| bitS (Y + 1) ||| bitS (Z + 1)) else none) else none) Y 0), c]
      refine fnd_cg (fun k _ hk => ?_)
      rw [d k (by omega)]
      obtain ⟨a2, b2, c2, d2⟩ := gK_at B 30 k (by omega)
      show _ = fnd (fun Z => if bCnt B Z 0 19 = true then (fun Z => if mEx N O (rNl B) B.1 ((gK B 30).2 i + 1) ((gK B 30).2 k + 1) (Z + 1) = true then some (bitS ((gK B 30).2 i + 1) ||| bitS ((gK B 30).2 k + 1) ||| bitS (Z + 1)) else none) Z else none) ((gK B 30).2 k) 0
      rw [fnd_K B (fun Z => if mEx N O (rNl B) B.1 ((gK B 30).2 i + 1) ((gK B 30).2 k + 1) (Z + 1) = true then some (bitS ((gK B 30).2 i + 1) ||| bitS ((gK B 30).2 k + 1) ||| bitS (Z + 1)) else none), c2]
      refine fnd_cg (fun l _ hl => ?_)
      rw [d2 l (by omega)]
      unfold sF3
      rw [sEx_eq h hO hQ (xg i hi) (xg k (by omega)) (xg l (by omega)), hbit i hi, hbit k (by omega), hbit l (by omega)]
    rw [fnd_cg (f := fun x => fnd (fun y => fnd (fun z => sF3 (tQ B Q) x y z) y 0) x 0) (g := fun i => tH3 B N O ((gK B 30).2 i)) (fun i _ hi => key i (by omega))]
    refine Eq.trans ?_ (fnd_B h.1 (tH3 B N O))
    refine fnd_cg (fun X _ hX => ?_)
    unfold tH3
    by_cases cX : bCnt B X 0 19 = true
    · rw [if_pos cX]
      refine fnd_cg (fun Y _ hY => ?_)
      by_cases cY : bCnt B Y 0 19 = true
      · rw [if_pos cY]
        refine fnd_cg (fun Z _ hZ => ?_)
        unfold tG
        rw [hc X (by omega), hc Y (by omega), hc Z (by omega), cX, cY]
        by_cases cZ : bCnt B Z 0 19 = true
        · rw [if_pos cZ, cZ]
          simp only [Bool.true_and]
        · rw [if_neg cZ, if_neg (by simp [cZ])]
      · rw [if_neg cY]
        refine fnd_no (fun Z _ hZ => ?_)
        unfold tG
        rw [hc Y (by omega), if_neg (by simp [cY])]
    · rw [if_neg cX]
      refine fnd_no (fun Y _ hY => fnd_no (fun Z _ hZ => ?_))
      unfold tG
      rw [hc X (by omega), if_neg (by simp [cX])]
  unfold mTr tR s1 s2 s3
  rw [r0, ← r1, ← r2, ← r3]
  by_cases h0 : sEx (tQ B Q) 30 30 30 = true
  · rw [if_pos h0, if_pos h0]
  · rw [if_neg h0, if_neg h0]
    cases e1 : trM1 N O (rNl B) B.1 B.2.1 with
    | some v =>
      have hv : v ≠ -1 := by
        rw [r1] at e1
        obtain ⟨x, -, b, c⟩ := fnd_some e1
        unfold sF1 at c
        split at c
        · rw [hm] at b
          rw [hbit x (by omega)] at c
          cases c
          exact bit_1 _ (by have := hgl x (by omega); omega)
        · cases c
      show v = if oD (some v) = -1 then _ else oD (some v)
      rw [if_neg (show ¬ oD (some v) = -1 from hv)]
      rfl
    | none =>
      show _ = if oD none = -1 then _ else oD none
      rw [if_pos (show oD none = -1 from rfl)]
      cases e2 : trM2 N O (rNl B) B.1 B.2.1 with
      | some v =>
        have hv : v ≠ -1 := by
          rw [r2] at e2
          obtain ⟨x, -, b, c⟩ := fnd_some e2
          obtain ⟨y, -, b2, c2⟩ := fnd_some c
          unfold sF2 at c2
          split at c2
          · rw [hm] at b
            rw [hbit x (by omega), hbit y (by omega)] at c2
            cases c2
            exact bit_2 _ (by have := hgl x (by omega); omega) _ (by have := hgl y (by omega); omega)
          · cases c2
        show v = if oD (some v) = -1 then _ else oD (some v)
        rw [if_neg (show ¬ oD (some v) = -1 from hv)]
        rfl
      | none =>
        show _ = if oD none = -1 then _ else oD none
        rw [if_pos (show oD none = -1 from rfl)]
        cases trM3 N O (rNl B) B.1 B.2.1 <;> rfl
