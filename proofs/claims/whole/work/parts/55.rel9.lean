/-! 55: post and undo -/
theorem poN_at {N : Nat → Int32} {nj : Nat} {p : Int32} : poN N nj p (50 + 15 * nj + 0) = p ∧ (∀ k, 1 ≤ k → k < 15 → poN N nj p (50 + 15 * nj + k) = 0) ∧ ∀ q, q < 50 + 15 * nj ∨ 50 + 15 * nj + 15 ≤ q → poN N nj p q = N q := by
  unfold poN
  refine ⟨upd_s, fun k h1 h2 => ?_, fun q hq => ?_⟩
  · rw [upd_n (by omega), cps_at, if_pos ⟨by omega, by omega⟩]
  · rw [upd_n (by omega), cps_at, if_neg (by omega)]
theorem poF_out {N : Nat → Int32} {nj q : Nat} {p x y m : Int32} (h1 : q ≠ 1) (h : q < 50 + 15 * nj ∨ 50 + 15 * nj + 15 ≤ q) : poF N nj p x y m q = N q := by
  unfold poF
  rw [upd_n h1, adF_out (by omega), (@poN_at N nj p).2.2 q h]
theorem r_post {A : AP} {B : BP} {sn : Nat} {S N : Nat → Int32} (G : GP) (h : bRel B N) (hh : hRel A sn S N) (p x y m : Int32) : (dPost (G, A, B) p x y m).1 = (mPo N S sn B.1 B.2.1 p x y m).1 ∧ bRel (dPost (G, A, B) p x y m).2.2.2 (mPo N S sn B.1 B.2.1 p x y m).2.2.2 ∧ hRel (dPost (G, A, B) p x y m).2.2.1 (mPo N S sn B.1 B.2.1 p x y m).2.1 (mPo N S sn B.1 B.2.1 p x y m).2.2.1 (mPo N S sn B.1 B.2.1 p x y m).2.2.2 := by
  unfold dPost mPo
  rw [dTf_eq, inB_pe]
  have h30 := h.1.2.1
  have h12 := h.1.1
  by_cases c1 : dPe p = true ∧ dTf B x y m = true
  · rw [if_pos (show dPe p = true ∧ dTf (G, A, B).2.2 x y m = true from c1), if_pos (show (dPe p && dTf B x y m) = true by rw [c1.1, c1.2]; rfl)]
    obtain ⟨hx, hy, m1, m2⟩ := dTf_use h.1 c1.2
    by_cases c2 : B.2.1 < 30
    · rw [if_pos (show (G, A, B).2.2.2.1 < 30 from c2), if_neg (show ¬ B.2.1 = 30 by omega)]
      obtain ⟨q1, q2, q3⟩ := @poN_at N B.2.1 p
      have hp : 0 ≤ p ∧ p < 20 := by
        have := c1.1
        unfold dPe at this
        simpa using this
      have hop : bOpen B p = (B.1, B.2.1 + 1, B.2.2.1, uX B.2.2.2 B.2.1 (jBegin p (B.2.2.2 B.2.1))) := by unfold bOpen; rw [if_pos c2]
      have hJ0 : (bOpen B p).2.2.2 B.2.1 = jBegin p (B.2.2.2 B.2.1) := post_0 c2
      have hjr : jRel B.1 (stl (jTra (jBegin p (B.2.2.2 B.2.1)) x y m) G).2 (adF (poN N B.2.1 p) B.2.1 0 x y m) B.2.1 := jRel_tra G rfl (Nat.zero_le _) q1 hp (q2 1 (by omega) (by omega)) (fun k hk => absurd hk (Nat.not_lt_zero k)) (Or.inl rfl) hx hy m1 m2
      have hok : okJ (stl (jTra (jBegin p (B.2.2.2 B.2.1)) x y m) G).2 := okJ_stl (J := jTra (jBegin p (B.2.2.2 B.2.1)) x y m) (okJ_add (okJ_add ⟨Nat.zero_le _, Nat.zero_le _, Nat.zero_le _⟩)) (by rw [jTra_l (Nat.zero_le _)]; omega) G
      refine ⟨rfl, ?_, ?_⟩
      · show bRel (setJ (bOpen B p) B.2.1 (stl (jTra ((bOpen B p).2.2.2 B.2.1) x y m) G).2) (poF N B.2.1 p x y m)
        rw [hJ0]
        refine ⟨okB_setJ (okB_open h.1 p) hok, ?_, ?_, fun i hi => ?_, fun j hj => ?_⟩
        · rw [poF_out (by omega) (by omega), hop]; exact h.2.1
        · rw [hop]
          show upd (adF (poN N B.2.1 p) B.2.1 0 x y m) 1 (nI (B.2.1 + 1)) 1 = _
          rw [upd_s]
          rfl
        · rw [hop] at hi ⊢
          have hi' : i < B.1 := hi
          exact aRel_cg (fun k hk => poF_out (by omega) (by omega)) (h.2.2.2.1 i hi')
        · rw [hop] at hj ⊢
          have hj' : j < B.2.1 + 1 := hj
          show jRel B.1 (uX (uX B.2.2.2 B.2.1 (jBegin p (B.2.2.2 B.2.1))) B.2.1 (stl (jTra (jBegin p (B.2.2.2 B.2.1)) x y m) G).2 j) (poF N B.2.1 p x y m) j
          by_cases e : j = B.2.1
          · subst e
            rw [uX_s]
            exact jRel_cg (fun k hk => upd_n (by omega)) hjr
          · rw [uX_n e, uX_n e]
            exact jRel_cg (fun k hk => poF_out (by omega) (by omega)) (h.2.2.2.2 j (by omega))
      · show hRel (aKeep A 0 (nI B.2.1) (-1)) (snN sn) (snS S sn N) (poF N B.2.1 p x y m)
        refine hRel_push hh (fun B2 G2 hb => ⟨fun q => absurd q (by decide), ?_⟩)
        have e1 : B2.1 = B.1 := bRel_n h hb (poF_out (by omega) (by omega))
        have e2 : B2.2.1 = B.2.1 + 1 := bRel_m hb (by omega) (by
          show upd (adF (poN N B.2.1 p) B.2.1 0 x y m) 1 (nI (B.2.1 + 1)) 1 = _
          rw [upd_s])
        have e : (dTkb G2 B2 0 (nI B.2.1) (-1)).2 = (B2.1, B2.2.1 - 1, B2.2.2) := by
          unfold dTkb
          rw [if_pos rfl]
        rw [e]
        refine ⟨⟨hb.1.1, by show B2.2.1 - 1 ≤ 30; omega, hb.1.2.2⟩, ?_, ?_, fun i hi => ?_, fun j hj => ?_⟩
        · show N 0 = nI B2.1
          rw [e1]; exact h.2.1
        · show N 1 = nI (B2.2.1 - 1)
          rw [e2]; exact h.2.2.1
        · have hi' : i < B2.1 := hi
          exact aRel_cg (fun k hk => (poF_out (by omega) (by omega)).symm) (hb.2.2.2.1 i hi')
        · have hj' : j < B2.2.1 - 1 := hj
          exact jRel_cg (fun k hk => (poF_out (by omega) (by omega)).symm) (hb.2.2.2.2 j (by omega))
    · rw [if_neg (show ¬ (G, A, B).2.2.2.1 < 30 from c2), if_pos (show B.2.1 = 30 by omega)]
      exact ⟨rfl, h, hh⟩
  · rw [if_neg (show ¬ (dPe p = true ∧ dTf (G, A, B).2.2 x y m = true) from c1), if_neg (show ¬ (dPe p && dTf B x y m) = true from fun q => c1 (by simpa using q))]
    exact ⟨rfl, h, hh⟩
theorem r_undo {A : AP} {B : BP} {sn : Nat} {S N : Nat → Int32} (G : GP) (h : bRel B N) (hh : hRel A sn S N) : (A.2 0 (A.1 - 1) = 1 → 0 < A.1 → inR B.2.1 (A.2 1 (A.1 - 1)) = true → 4 ≤ (B.2.2.2 (A.2 1 (A.1 - 1)).toNatClampNeg).2.1) ∧ (dUnd (G, A, B)).1 = (mUn N S sn).1 ∧ bRel (dUnd (G, A, B)).2.2.2 (mUn N S sn).2.2.2 ∧ hRel (dUnd (G, A, B)).2.2.1 (mUn N S sn).2.1 (mUn N S sn).2.2.1 (mUn N S sn).2.2.2 := by
  have hs := hh.1
  unfold dUnd mUn
  by_cases c : sn = 0
  · rw [if_pos (show (G, A, B).2.1.1 = 0 from by show A.1 = 0; omega), if_pos c]
    exact ⟨fun _ q => absurd q (by omega), rfl, h, hh⟩
  · rw [if_neg (show ¬ (G, A, B).2.1.1 = 0 from by show ¬ A.1 = 0; omega), if_neg c]
    obtain ⟨r1, r2, r3⟩ := id hh
    obtain ⟨p1, p2⟩ := r3 (sn - 1) (by omega) B G (by
      unfold hRow
      rw [if_pos (by omega)]
      exact h)
    rw [← hs] at p1 p2
    refine ⟨fun a _ b => p1 a b, ?_, ?_, ?_⟩
    · show nI (A.1 - 1) = nI (sn - 1)
      rw [hs]
    · refine bRel_cg (fun q hq => ?_) p2
      show cps N 0 (fun k => S (500 * (sn - 1) + k)) 500 q = hRow S N A.1 (A.1 - 1) q
      unfold hRow
      rw [if_neg (by omega), cps_at, if_pos ⟨by omega, by omega⟩, hs]
      rfl
    · exact hRel_undo hh (by omega)
