theorem ret_L1 : ∀ (fu i : Nat) (u : ST), i ≤ 3 → 3 - i < fu → (∀ s, s < i → u.2 12 s = 0 ∧ u.2 14 s = 0 ∧ u.2 22 s = 0) →
    ∃ u' : ST, fM_retune_L7 fu i u = some (3, u') ∧ u'.1 = u.1 ∧ (∀ j, j ≠ 12 → j ≠ 14 → j ≠ 22 → u'.2 j = u.2 j) ∧ ∀ s, s < 3 → u'.2 12 s = 0 ∧ u'.2 14 s = 0 ∧ u'.2 22 s = 0 := by
  intro fu
  induction fu with
  | zero => intro i u _ h; omega
  | succ fu ih =>
    intro i u hi hf h
    rw [fM_retune_L7]
    by_cases hc : i = 3
    · subst hc
      exact ⟨u, by rw [ss_p (by omega), if_pos (by omega)], rfl, fun _ _ _ _ => rfl, h⟩
    · obtain ⟨u', e1, e2, e3, e4⟩ := ih (i + 1) (sA (sA (sA u 12 (va_up (u.2 12) i 0)) 14 (va_up (u.2 14) i 0)) 22 (va_up (u.2 22) i 0)) (by omega) (by omega) (by
        intro s hs
        simp (disch := omega) only [ite_true, ite_false, not_true_eq_false, not_false_eq_true, sA_2, up_s, up_n]
        by_cases h2 : s = i
        · subst h2; rw [up_s, up_s, up_s]; exact ⟨rfl, rfl, rfl⟩
        · rw [up_n _ _ h2, up_n _ _ h2, up_n _ _ h2]; exact h s (by omega))
      refine ⟨u', by rw [ss_p (by omega), if_neg (by omega), ss_p (by omega)]; exact e1, e2, fun j a b d => by rw [e3 j a b d]; simp (disch := omega) only [ite_true, ite_false, not_true_eq_false, not_false_eq_true, sA_2, up_n], e4⟩
theorem ret_L2 : ∀ (fu i : Nat) (u : ST), i ≤ 6 → 6 - i < fu → (∀ s, s < i → u.2 23 s = 0) →
    ∃ u' : ST, fM_retune_L41 fu i u = some (6, u') ∧ u'.1 = u.1 ∧ (∀ j, j ≠ 23 → u'.2 j = u.2 j) ∧ ∀ s, s < 6 → u'.2 23 s = 0 := by
  intro fu
  induction fu with
  | zero => intro i u _ h; omega
  | succ fu ih =>
    intro i u hi hf h
    rw [fM_retune_L41]
    by_cases hc : i = 6
    · subst hc
      exact ⟨u, by rw [ss_p (by omega), if_pos (by omega)], rfl, fun _ _ => rfl, h⟩
    · obtain ⟨u', e1, e2, e3, e4⟩ := ih (i + 1) (sA u 23 (va_up (u.2 23) i 0)) (by omega) (by omega) (by
        intro s hs
        rw [sA_2, up_s]
        by_cases h2 : s = i
        · subst h2; rw [up_s]
        · rw [up_n _ _ h2]; exact h s (by omega))
      refine ⟨u', by rw [ss_p (by omega), if_neg (by omega), ss_p (by omega)]; exact e1, e2, fun j a => by rw [e3 j a, sA_2, up_n _ _ a], e4⟩
theorem sim_retune {x : XS} {y : ST} {k : Nat} (h : Inv x y k) : ∃ x' y', fX_retune x = some x' ∧ fM_retune y = some y' ∧ Inv x' y' (k + 1) := by
  obtain ⟨hI, ⟨⟨r1, r2, r3, r4, r5, r6⟩, g0, g1, g2⟩, b1, b2, b3⟩ := h
  obtain ⟨u, e1, u1, uo, uz⟩ := ret_L1 100 0 (sI y 16 0) (by omega) (by omega) (fun s hs => by omega)
  obtain ⟨w, e2, w1, wo, wz⟩ := ret_L2 100 0 u (by omega) (by omega) (fun s hs => by omega)
  have cr : ∀ {c : ST} {s : Nat}, s < 3 → CRy c y s → CRy (sI (sI (sI c 0 0) 2 0) 10 0) w s := by
    intro c s hs hc
    obtain ⟨⟨c0, c1, c2, l0, l1, l2⟩, -, -⟩ := hc
    obtain ⟨z1, z2, z3⟩ := uz s hs
    unfold CRy
    rw [wo 12 (by omega), wo 14 (by omega), wo 22 (by omega), z1, z2, z3, wo 13 (by omega), uo 13 (by omega) (by omega) (by omega)]
    refine ⟨⟨by simp (disch := omega) only [ite_true, ite_false, not_true_eq_false, not_false_eq_true, sI_1, up_s, up_n], by simp (disch := omega) only [ite_true, ite_false, not_true_eq_false, not_false_eq_true, sI_1, up_s, up_n]; exact c1, by simp (disch := omega) only [ite_true, ite_false, not_true_eq_false, not_false_eq_true, sI_1, up_s, up_n], by omega, l1, by omega⟩, fun h9 => by omega, by simp (disch := omega) only [ite_true, ite_false, not_true_eq_false, not_false_eq_true, sI_1, up_s], fun h9 => by omega⟩
  refine ⟨va_up (va_up (va_up (va_up x 10 (sA (sI (sI (x 10) 2 0) 3 0) 0 (va_up (va_up (va_up (va_up (va_up (va_up ((x 10).2 0) 0 0) 1 0) 2 0) 3 0) 4 0) 5 0))) 11 (sI (sI (sI (x 11) 0 0) 2 0) 10 0)) 12 (sI (sI (sI (x 12) 0 0) 2 0) 10 0)) 13 (sI (sI (sI (x 13) 0 0) 2 0) 10 0), w, ?_, ?_, ?_, ?_, ?_, ?_, ?_⟩
  · simp only [fX_retune, fR_reset, fC_reset, ob_some]
  · simp only [fM_retune, e1, e2, ob_some]
  · refine hI.keep (fun j hj => by rw [up_n _ _ (by omega), up_n _ _ (by omega), up_n _ _ (by omega), up_n _ _ (by omega)]) (fun j hj => by rw [wo j (by omega), uo j (by omega) (by omega) (by omega)]; rfl) (fun j h16 _ => by rw [w1, u1, sI_1, up_n _ _ h16])
  · simp (disch := omega) only [ite_true, ite_false, not_true_eq_false, not_false_eq_true, up_n, up_s]
    refine ⟨⟨?_, ?_, ?_, ?_, ?_, ?_⟩, cr (by omega) g0, cr (by omega) g1, cr (by omega) g2⟩
    · rw [w1, u1]; simp (disch := omega) only [ite_true, ite_false, not_true_eq_false, not_false_eq_true, sA_1, sI_1, up_s, up_n]
    · rw [w1, u1, sI_1, up_s]; omega
    · rw [w1, u1, sI_1, up_s]; intro h9; omega
    · rw [w1, u1, sI_1, up_n _ _ (by omega)]; exact r4
    · simp (disch := omega) only [ite_true, ite_false, not_true_eq_false, not_false_eq_true, sA_1, sI_1, up_s]; omega
    · intro k2 hk2
      rw [wz k2 hk2, sA_2, up_s]
      have hc : k2 = 0 ∨ k2 = 1 ∨ k2 = 2 ∨ k2 = 3 ∨ k2 = 4 ∨ k2 = 5 := by omega
      rcases hc with h | h | h | h | h | h <;> subst h <;> simp (disch := omega) only [ite_true, ite_false, not_true_eq_false, not_false_eq_true, up_s, up_n]
  · rw [w1, u1, sI_1, up_n _ _ (by omega)]; omega
  · intro s hs; rw [wo 4 (by omega), uo 4 (by omega) (by omega) (by omega)]; have := b2 s hs; show y.2 4 s ≤ k + 1; omega
  · intro s hs; rw [wo 22 (by omega), (uz s hs).2.2]; omega
theorem SR.congr {v q t : ST} {f g h f' g' h' : Nat → Nat} {tm o A L C S lo nx la : Nat} (hR : SR v q t f g h tm o A L C S lo nx la) (hf : ∀ k, k < 512 → f' (o + k) = f (o + k) ∧ g' (o + k) = g (o + k) ∧ h' (o + k) = h (o + k)) : SR v q t f' g' h' tm o A L C S lo nx la := by
  obtain ⟨⟨wq, wt⟩, ⟨e2, e3, e4, e5, e6, e7⟩, ⟨i1, i2, i3, i4, i5⟩, hu, hm, hd, ⟨s1, s2, s3, s4, s5, s6⟩⟩ := hR
  have wn : ∀ {u : ST} {a n : Nat}, Win u f g h (o + a) n → a + n ≤ 512 → Win u f' g' h' (o + a) n := by
    intro u a n hw ha
    refine ⟨hw.1, fun i hi => ?_⟩
    obtain ⟨h1, h2, h3⟩ := hf (a + i) (by omega)
    rw [Nat.add_assoc, h1, h2, h3, ← Nat.add_assoc]
    exact hw.2 i hi
  refine ⟨⟨wn wq (by omega), wn wt (by omega)⟩, ⟨e2, e3, ?_, e5, e6, ?_⟩, ⟨i1, i2, i3, i4, i5⟩, fun k hk => ?_, fun k hk => ?_, fun k h1 h2 => ?_, ⟨fun h9 => ?_, s2, s3, s4, s5, s6⟩⟩
  · rw [e4, sm_eq f f' (C - L) (o + L) (fun i hi => by rw [Nat.add_assoc]; exact (hf (L + i) (by omega)).1)]
  · rw [e7]
    by_cases hA : A = 0
    · rw [if_pos hA, if_pos hA]
    · rw [if_neg hA, if_neg hA, show o + A - 1 = o + (A - 1) by omega, (hf (A - 1) (by omega)).2.1]
  · obtain ⟨h1, h2, h3⟩ := hf k (by omega)
    rw [h1, h2, h3]; exact hu k hk
  · rw [(hf k (by omega)).2.1, (hf (k + 1) (by omega)).2.1]; exact hm k hk
  · rw [(hf k (by omega)).2.1]; exact hd k h1 h2
  · rw [(hf C (by omega)).1]; exact s1 h9
/-- a unit more in a stream -/
theorem SR.add {v q t q' : ST} {f g h : Nat → Nat} {tm o A L C S lo nx la a d e : Nat} (hR : SR v q t f g h tm o A L C S lo nx la) (hA : A < 512) (h8 : A - C < 8) (ha : 1 ≤ a ∧ a ≤ 60) (he : e ≤ 255) (hd : tm < d ∧ d ≤ tm + 1000) (hn : v.1 7 < d) (hq : fU_append q a d e = some q') :
    SR (sI v 7 d) q' t (va_up f (o + A) a) (va_up g (o + A) d) (va_up h (o + A) e) tm o (A + 1) L C S lo nx la := by
  obtain ⟨⟨wq, wt⟩, ⟨e2, e3, e4, e5, e6, e7⟩, ⟨i1, i2, i3, i4, i5⟩, hu, hm, hdd, ⟨s1, s2, s3, s4, s5, s6⟩⟩ := hR
  obtain ⟨q2, eq2, wq2⟩ := eU_app (x := a) (y := d) (z := e) (f' := va_up f (o + A) a) (g' := va_up g (o + A) d) (h' := va_up h (o + A) e) wq h8 (fun i hi => ⟨up_n _ _ (by omega), up_n _ _ (by omega), up_n _ _ (by omega)⟩) (by rw [show o + C + (A - C) = o + A by omega, up_s]) (by rw [show o + C + (A - C) = o + A by omega, up_s]) (by rw [show o + C + (A - C) = o + A by omega, up_s])
  rw [hq] at eq2
  cases eq2
  refine ⟨⟨by rw [show A + 1 - C = A - C + 1 by omega]; exact wq2, wt.1, fun i hi => ?_⟩, ⟨by rw [sI_1, up_n _ _ (by omega)]; exact e2, by rw [sI_1, up_n _ _ (by omega)]; exact e3, ?_, by rw [sI_1, up_n _ _ (by omega)]; exact e5, by rw [sI_1, up_n _ _ (by omega)]; exact e6, ?_⟩, ⟨i1, by omega, by omega, i4, by omega⟩, fun k hk => ?_, fun k hk => ?_, fun k h1 h2 => ?_, ⟨fun h9 => ?_, fun h9 => by omega, s3, s4, s5, s6⟩⟩
  · rw [up_n _ _ (by omega), up_n _ _ (by omega), up_n _ _ (by omega)]; exact wt.2 i hi
  · rw [sI_1, up_n _ _ (by omega), e4, sm_eq f (va_up f (o + A) a) (C - L) (o + L) (fun i hi => up_n _ _ (by omega))]
  · rw [sI_1, up_s, if_neg (by omega), show o + (A + 1) - 1 = o + A by omega, up_s]
  · by_cases hc : k = A
    · subst hc; rw [up_s, up_s, up_s]; omega
    · rw [up_n _ _ (by omega), up_n _ _ (by omega), up_n _ _ (by omega)]; exact hu k (by omega)
  · by_cases hc : k + 1 = A
    · rw [up_n _ _ (by omega), show o + (k + 1) = o + A by omega, up_s]
      rw [e7, if_neg (by omega), show o + A - 1 = o + k by omega] at hn
      exact hn
    · rw [up_n _ _ (by omega), up_n _ _ (by omega)]; exact hm k (by omega)
  · by_cases hc : k = A
    · subst hc; rw [up_s]; omega
    · rw [up_n _ _ (by omega)]; exact hdd k h1 (by omega)
  · by_cases hc : C = A
    · have := s2 hc
      rw [hc, up_s]; omega
    · rw [up_n _ _ (by omega)]; exact s1 (by omega)
theorem i32_le {x y : Int32} : x ≤ y ↔ x.toInt ≤ y.toInt := Int32.le_iff_toInt_le
theorem i32_lt {x y : Int32} : x < y ↔ x.toInt < y.toInt := Int32.lt_iff_toInt_lt
/-- the checks of add, in both orders -/
theorem addM {y : ST} {s : Nat} {v2 v3 v4 : Int32} (hs : s < 3) {A C tm : Nat} (hA : y.2 4 s = A) (hC : y.2 6 s = C) (ht : y.1 2 = tm) (hA2 : A < 512) (hCA : C ≤ A) (ht2 : tm < 900000) (h2 : fwithin v2 (nI 1) (nI 60) = some 1) (h4 : fwithin v4 (nI 0) (nI 255) = some 1) (p2 : ¬ v2 < 0) (p4 : ¬ v4 < 0) :
    fM_add y (nI s) v2 v3 v4 = (if v3 < nI (tm + 1) ∨ nI (tm + 1000) < v3 then some ((-3), y) else if (A = 0 ∨ nI (y.2 2 (512 * s + A - 1)) < v3) then (if A - C < 8 then ss (¬ v3 < 0) (some (nI (A + 1 - C), sA (sA (sA (sA y 1 (va_up (y.2 1) (512 * s + A) v2.toNatClampNeg)) 2 (va_up (y.2 2) (512 * s + A) v3.toNatClampNeg)) 3 (va_up (y.2 3) (512 * s + A) v4.toNatClampNeg)) 4 (va_up (y.2 4) s (A + 1)))) else some ((-2), y)) else some ((-3), y)) := by
  have hp : ¬ nI s < 0 := nI_pos (by omega)
  have hcl : (nI s).toNatClampNeg = s := nI_clamp (by omega)
  have e1 : fwithin (nI s) (nI 0) (nI 2) = some 1 := by rw [ewithinN (by omega) (by omega) (by omega), if_pos (by omega)]
  unfold fM_add
  rw [e1, ob_some, ss_p (by omega), if_neg (by omega), h2, ob_some, ss_p (by omega), if_neg (by omega), h4, ob_some, ss_p (by omega), if_pos (by omega), ss_p hp, ss_p p2, ss_p p4, hcl, ss_p hs, ht, ewithin, ob_some, hA, hC]
  by_cases hd : v3 < nI (tm + 1) ∨ nI (tm + 1000) < v3
  · rw [if_pos hd, ss_p (by omega), if_pos rfl, if_pos hd]
  · have p3 : ¬ v3 < 0 := fun h9 => hd (Or.inl (i32_lt.mpr (by
      have h8 := i32_lt.mp h9
      have z0 : (0 : Int32).toInt = 0 := by decide
      have t1 : (nI (tm + 1)).toInt = ((tm + 1 : Nat) : Int) := nI_toInt (by omega)
      omega)))
    rw [if_neg hd, ss_p (by omega), if_neg (by omega), if_neg hd, ss_p (by omega)]
    by_cases h0 : A ≤ 0
    · rw [if_pos h0, if_pos (Or.inl (by omega)), ss_p hCA, ss_p (by omega)]
      by_cases h8 : A - C < 8
      · rw [if_pos h8, if_pos h8, ss_p p3, ss_p (by omega : 512 * s + A < 1536), ss_p (by omega), ss_p p3]
      · rw [if_neg h8, if_neg h8]
    · rw [if_neg h0, ss_p (by omega), ss_p (by omega)]
      by_cases hn : nI (y.2 2 (512 * s + A - 1)) < v3
      · rw [if_pos hn, if_pos (Or.inr hn), ss_p hCA, ss_p (by omega)]
        by_cases h8 : A - C < 8
        · rw [if_pos h8, if_pos h8, ss_p p3, ss_p (by omega : 512 * s + A < 1536), ss_p (by omega), ss_p p3]
        · rw [if_neg h8, if_neg h8]
      · rw [if_neg hn, if_neg (fun h9 => h9.elim (fun h => h0 (by omega)) hn)]
theorem sim_add0 {x : XS} {y : ST} {k : Nat} {v2 v3 v4 : Int32} (h : Inv x y k) (hk : k < 512) (h2 : fwithin v2 (nI 1) (nI 60) = some 1) (h4 : fwithin v4 (nI 0) (nI 255) = some 1) {a e : Nat} (ha : v2 = nI a ∧ 1 ≤ a ∧ a ≤ 60) (he : v4 = nI e ∧ e ≤ 255) :
    ∃ r x' y', (if v3 ≤ (nI ((x 0).1 6)) then some ((-3), x) else (if (nI (((x 0).1 6) + 1000)) < v3 then some ((-3), x) else (if (nI ((x 1).1 7)) < v3 then ob (fU_isFull (x 2)) (fun r13 => ss (r13 < 2147483648) ((if r13 = 0 then ss (¬ v2 < 0) (ss (¬ v3 < 0) (ss (¬ v4 < 0) (ob (fU_append (x 2) v2.toNatClampNeg v3.toNatClampNeg v4.toNatClampNeg) (fun r20 => some (nI (r20.1 3), va_up (va_up x 1 (sI (x 1) 7 v3.toNatClampNeg)) 2 r20))))) else some ((-2), x)))) else some ((-3), x)))) = some (r, x') ∧ fM_add y (nI 0) v2 v3 v4 = some (r, y') ∧ Inv x' y' (k + 1) := by
  have hI0 := h
  obtain ⟨⟨⟨r0, r1, r2⟩, ⟨a0, a1, a2, a3, a4, a5, a6⟩, ag, b255⟩, hR, b1, b2, b3⟩ := h
  have hr := r0
  unfold SRy at hr
  have hrr := hr
  obtain ⟨⟨wq, wt⟩, ⟨e2, e3, e4, e5, e6, e7⟩, ⟨i1, i2, i3, i4, i5⟩, hu, -, -, -⟩ := hr
  have hA := b2 0 (by omega)
  obtain ⟨rfl, ha1, ha2⟩ := ha
  obtain ⟨rfl, he2⟩ := he
  have p2 : ¬ nI a < 0 := nI_pos (by omega)
  have p4 : ¬ nI e < 0 := nI_pos (by omega)
  rw [addM (by omega) rfl rfl rfl (by omega) i2 (by omega) h2 h4 p2 p4, a2, e7]
  have t0 : (nI (y.1 2)).toInt = ((y.1 2 : Nat) : Int) := nI_toInt (by omega)
  have t1 : (nI (y.1 2 + 1)).toInt = ((y.1 2 + 1 : Nat) : Int) := nI_toInt (by omega)
  have t2 : (nI (y.1 2 + 1000)).toInt = ((y.1 2 + 1000 : Nat) : Int) := nI_toInt (by omega)
  have z0 : (0 : Int32).toInt = 0 := by decide
  have z0' : (nI 0).toInt = 0 := by decide
  by_cases hd : v3 < nI (y.1 2 + 1) ∨ nI (y.1 2 + 1000) < v3
  · refine ⟨-3, x, y, ?_, by rw [if_pos hd], hI0.le (by omega)⟩
    by_cases hd1 : v3 ≤ nI (y.1 2)
    · rw [if_pos hd1]
    · rw [if_neg hd1, if_pos (hd.elim (fun h9 => absurd (i32_le.mpr (by have := i32_lt.mp h9; omega)) hd1) id)]
  · have hd1 : ¬ v3 ≤ nI (y.1 2) := fun h9 => hd (Or.inl (i32_lt.mpr (by have := i32_le.mp h9; omega)))
    have hd2 : ¬ nI (y.1 2 + 1000) < v3 := fun h9 => hd (Or.inr h9)
    have q1 : (y.1 2 : Int) < v3.toInt := by
      have : ¬ v3.toInt ≤ (nI (y.1 2)).toInt := fun h9 => hd1 (i32_le.mpr h9)
      omega
    have q2 : v3.toInt ≤ ((y.1 2 + 1000 : Nat) : Int) := by
      have : ¬ (nI (y.1 2 + 1000)).toInt < v3.toInt := fun h9 => hd2 (i32_lt.mpr h9)
      omega
    have p3 : ¬ v3 < 0 := fun h9 => by have := i32_lt.mp h9; omega
    obtain ⟨d, hdd, rfl⟩ := nI_of p3
    have td : (nI d).toInt = (d : Int) := nI_toInt hdd
    have cd : (nI d).toNatClampNeg = d := nI_clamp hdd
    rw [if_neg hd1, if_neg hd2, if_neg hd]
    -- the newest
    have hnew : (nI (if y.2 4 0 = 0 then 0 else y.2 2 (512 * 0 + y.2 4 0 - 1)) < nI d) ↔ (y.2 4 0 = 0 ∨ nI (y.2 2 (512 * 0 + y.2 4 0 - 1)) < nI d) := by
      by_cases h0 : y.2 4 0 = 0
      · rw [if_pos h0]
        exact ⟨fun _ => Or.inl h0, fun _ => i32_lt.mpr (by omega)⟩
      · rw [if_neg h0]
        exact ⟨fun h9 => Or.inr h9, fun h9 => h9.elim (fun h => absurd h h0) id⟩
    by_cases hn : nI (if y.2 4 0 = 0 then 0 else y.2 2 (512 * 0 + y.2 4 0 - 1)) < nI d
    · rw [if_pos hn, if_pos (hnew.mp hn)]
      have ef := eU_isFull (u := x 2) (by rw [wq.1]; omega)
      rw [wq.1] at ef
      by_cases h8 : y.2 4 0 - y.2 6 0 < 8
      · rw [if_pos h8] at ef
        have hq : (x 2).1 3 < 8 := by rw [wq.1]; exact h8
        obtain ⟨q', hap⟩ : ∃ q', fU_append (x 2) a d e = some q' := ⟨_, eU_append hq⟩
        have hbn : (if y.2 4 0 = 0 then 0 else y.2 2 (512 * 0 + y.2 4 0 - 1)) < 2147483648 := by
          by_cases h0 : y.2 4 0 = 0
          · rw [if_pos h0]; omega
          · rw [if_neg h0, show 512 * 0 + y.2 4 0 - 1 = 512 * 0 + (y.2 4 0 - 1) by omega]
            have := (hu (y.2 4 0 - 1) (by omega)).2.2.2; omega
        have hsr := hrr.add (a := a) (d := d) (e := e) (by omega) h8 ⟨ha1, ha2⟩ he2 ⟨by omega, by omega⟩ (by rw [e7]; exact (nI_ltI hbn hdd).mp hn) hap
        have hq3 : q'.1 3 = y.2 4 0 + 1 - y.2 6 0 := hsr.1.1.1
        refine ⟨nI (q'.1 3), va_up (va_up x 1 (sI (x 1) 7 d)) 2 q', sA (sA (sA (sA y 1 (va_up (y.2 1) (512 * 0 + y.2 4 0) a)) 2 (va_up (y.2 2) (512 * 0 + y.2 4 0) d)) 3 (va_up (y.2 3) (512 * 0 + y.2 4 0) e)) 4 (va_up (y.2 4) 0 (y.2 4 0 + 1)), by rw [ef, ob_some, ss_p (by omega), if_pos rfl, ss_p p2, ss_p p3, ss_p p4, nI_clamp (show a < 2 ^ 31 by omega), nI_clamp (show e < 2 ^ 31 by omega), cd, hap, ob_some], ?_, ?_, ?_, ?_, ?_, ?_⟩
        · rw [if_pos h8, ss_p p3, nI_clamp (show a < 2 ^ 31 by omega), nI_clamp (show e < 2 ^ 31 by omega), cd]
          rw [hq3]
        · refine ⟨⟨?_, ?_, ?_⟩, ⟨?_, ?_, ?_, ?_, a4, a5, a6⟩, ?_, ?_⟩
          · unfold SRy
            simp (disch := omega) only [ite_true, ite_false, not_true_eq_false, not_false_eq_true, up_n, up_s, sA_2]; exact hsr
          · have hh := r1
            unfold SRy at hh ⊢
            simp (disch := omega) only [ite_true, ite_false, not_true_eq_false, not_false_eq_true, up_n, up_s, sA_2]
            exact hh.congr (fun k hk => ⟨up_n _ _ (by omega), up_n _ _ (by omega), up_n _ _ (by omega)⟩)
          · have hh := r2
            unfold SRy at hh ⊢
            simp (disch := omega) only [ite_true, ite_false, not_true_eq_false, not_false_eq_true, up_n, up_s, sA_2]
            exact hh.congr (fun k hk => ⟨up_n _ _ (by omega), up_n _ _ (by omega), up_n _ _ (by omega)⟩)
          · simp (disch := omega) only [ite_true, ite_false, not_true_eq_false, not_false_eq_true, up_n]; exact a0
          · simp (disch := omega) only [ite_true, ite_false, not_true_eq_false, not_false_eq_true, up_n]; exact a1
          · simp (disch := omega) only [ite_true, ite_false, not_true_eq_false, not_false_eq_true, up_n]; exact a2
          · simp (disch := omega) only [ite_true, ite_false, not_true_eq_false, not_false_eq_true, up_n]; exact a3
          · simp (disch := omega) only [ite_true, ite_false, not_true_eq_false, not_false_eq_true, up_n, sA_2]; exact ag
          · simp (disch := omega) only [ite_true, ite_false, not_true_eq_false, not_false_eq_true, up_n, sA_2]; exact b255
        · simp (disch := omega) only [ite_true, ite_false, not_true_eq_false, not_false_eq_true, up_n]
          exact hR.keep (fun j hj => by simp (disch := omega) only [ite_true, ite_false, not_true_eq_false, not_false_eq_true, sA_2, up_n]) (fun _ _ _ => rfl)
        · show y.1 2 ≤ 40 * (k + 1); omega
        · intro s hs
          simp (disch := omega) only [ite_true, ite_false, not_true_eq_false, not_false_eq_true, sA_2, up_s]
          by_cases hc : s = 0
          · subst hc; rw [up_s]; omega
          · rw [up_n _ _ hc]; have := b2 s hs; omega
        · intro s hs
          simp (disch := omega) only [ite_true, ite_false, not_true_eq_false, not_false_eq_true, sA_2, up_n]
          have := b3 s hs; omega
      · rw [if_neg h8] at ef
        exact ⟨-2, x, y, by rw [ef, ob_some, ss_p (by omega), if_neg (by omega)], by rw [if_neg h8], hI0.le (by omega)⟩
    · rw [if_neg hn, if_neg (fun h9 => hn (hnew.mpr h9))]
      exact ⟨-3, x, y, rfl, rfl, hI0.le (by omega)⟩
theorem sim_add1 {x : XS} {y : ST} {k : Nat} {v2 v3 v4 : Int32} (h : Inv x y k) (hk : k < 512) (h2 : fwithin v2 (nI 1) (nI 60) = some 1) (h4 : fwithin v4 (nI 0) (nI 255) = some 1) {a e : Nat} (ha : v2 = nI a ∧ 1 ≤ a ∧ a ≤ 60) (he : v4 = nI e ∧ e ≤ 255) :
    ∃ r x' y', (if v3 ≤ (nI ((x 0).1 6)) then some ((-3), x) else (if (nI (((x 0).1 6) + 1000)) < v3 then some ((-3), x) else (if (nI ((x 4).1 7)) < v3 then ob (fU_isFull (x 5)) (fun r13 => ss (r13 < 2147483648) ((if r13 = 0 then ss (¬ v2 < 0) (ss (¬ v3 < 0) (ss (¬ v4 < 0) (ob (fU_append (x 5) v2.toNatClampNeg v3.toNatClampNeg v4.toNatClampNeg) (fun r20 => some (nI (r20.1 3), va_up (va_up x 4 (sI (x 4) 7 v3.toNatClampNeg)) 5 r20))))) else some ((-2), x)))) else some ((-3), x)))) = some (r, x') ∧ fM_add y (nI 1) v2 v3 v4 = some (r, y') ∧ Inv x' y' (k + 1) := by
  have hI0 := h
  obtain ⟨⟨⟨r0, r1, r2⟩, ⟨a0, a1, a2, a3, a4, a5, a6⟩, ag, b255⟩, hR, b1, b2, b3⟩ := h
  have hr := r1
  unfold SRy at hr
  have hrr := hr
  obtain ⟨⟨wq, wt⟩, ⟨e2, e3, e4, e5, e6, e7⟩, ⟨i1, i2, i3, i4, i5⟩, hu, -, -, -⟩ := hr
  have hA := b2 1 (by omega)
  obtain ⟨rfl, ha1, ha2⟩ := ha
  obtain ⟨rfl, he2⟩ := he
  have p2 : ¬ nI a < 0 := nI_pos (by omega)
  have p4 : ¬ nI e < 0 := nI_pos (by omega)
  rw [addM (by omega) rfl rfl rfl (by omega) i2 (by omega) h2 h4 p2 p4, a2, e7]
  have t0 : (nI (y.1 2)).toInt = ((y.1 2 : Nat) : Int) := nI_toInt (by omega)
  have t1 : (nI (y.1 2 + 1)).toInt = ((y.1 2 + 1 : Nat) : Int) := nI_toInt (by omega)
  have t2 : (nI (y.1 2 + 1000)).toInt = ((y.1 2 + 1000 : Nat) : Int) := nI_toInt (by omega)
  have z0 : (0 : Int32).toInt = 0 := by decide
  have z0' : (nI 0).toInt = 0 := by decide
  by_cases hd : v3 < nI (y.1 2 + 1) ∨ nI (y.1 2 + 1000) < v3
  · refine ⟨-3, x, y, ?_, by rw [if_pos hd], hI0.le (by omega)⟩
    by_cases hd1 : v3 ≤ nI (y.1 2)
    · rw [if_pos hd1]
    · rw [if_neg hd1, if_pos (hd.elim (fun h9 => absurd (i32_le.mpr (by have := i32_lt.mp h9; omega)) hd1) id)]
  · have hd1 : ¬ v3 ≤ nI (y.1 2) := fun h9 => hd (Or.inl (i32_lt.mpr (by have := i32_le.mp h9; omega)))
    have hd2 : ¬ nI (y.1 2 + 1000) < v3 := fun h9 => hd (Or.inr h9)
    have q1 : (y.1 2 : Int) < v3.toInt := by
      have : ¬ v3.toInt ≤ (nI (y.1 2)).toInt := fun h9 => hd1 (i32_le.mpr h9)
      omega
    have q2 : v3.toInt ≤ ((y.1 2 + 1000 : Nat) : Int) := by
      have : ¬ (nI (y.1 2 + 1000)).toInt < v3.toInt := fun h9 => hd2 (i32_lt.mpr h9)
      omega
    have p3 : ¬ v3 < 0 := fun h9 => by have := i32_lt.mp h9; omega
    obtain ⟨d, hdd, rfl⟩ := nI_of p3
    have td : (nI d).toInt = (d : Int) := nI_toInt hdd
    have cd : (nI d).toNatClampNeg = d := nI_clamp hdd
    rw [if_neg hd1, if_neg hd2, if_neg hd]
    -- the newest
    have hnew : (nI (if y.2 4 1 = 0 then 0 else y.2 2 (512 * 1 + y.2 4 1 - 1)) < nI d) ↔ (y.2 4 1 = 0 ∨ nI (y.2 2 (512 * 1 + y.2 4 1 - 1)) < nI d) := by
      by_cases h0 : y.2 4 1 = 0
      · rw [if_pos h0]
        exact ⟨fun _ => Or.inl h0, fun _ => i32_lt.mpr (by omega)⟩
      · rw [if_neg h0]
        exact ⟨fun h9 => Or.inr h9, fun h9 => h9.elim (fun h => absurd h h0) id⟩
    by_cases hn : nI (if y.2 4 1 = 0 then 0 else y.2 2 (512 * 1 + y.2 4 1 - 1)) < nI d
    · rw [if_pos hn, if_pos (hnew.mp hn)]
      have ef := eU_isFull (u := x 5) (by rw [wq.1]; omega)
      rw [wq.1] at ef
      by_cases h8 : y.2 4 1 - y.2 6 1 < 8
      · rw [if_pos h8] at ef
        have hq : (x 5).1 3 < 8 := by rw [wq.1]; exact h8
        obtain ⟨q', hap⟩ : ∃ q', fU_append (x 5) a d e = some q' := ⟨_, eU_append hq⟩
        have hbn : (if y.2 4 1 = 0 then 0 else y.2 2 (512 * 1 + y.2 4 1 - 1)) < 2147483648 := by
          by_cases h0 : y.2 4 1 = 0
          · rw [if_pos h0]; omega
          · rw [if_neg h0, show 512 * 1 + y.2 4 1 - 1 = 512 * 1 + (y.2 4 1 - 1) by omega]
            have := (hu (y.2 4 1 - 1) (by omega)).2.2.2; omega
        have hsr := hrr.add (a := a) (d := d) (e := e) (by omega) h8 ⟨ha1, ha2⟩ he2 ⟨by omega, by omega⟩ (by rw [e7]; exact (nI_ltI hbn hdd).mp hn) hap
        have hq3 : q'.1 3 = y.2 4 1 + 1 - y.2 6 1 := hsr.1.1.1
        refine ⟨nI (q'.1 3), va_up (va_up x 4 (sI (x 4) 7 d)) 5 q', sA (sA (sA (sA y 1 (va_up (y.2 1) (512 * 1 + y.2 4 1) a)) 2 (va_up (y.2 2) (512 * 1 + y.2 4 1) d)) 3 (va_up (y.2 3) (512 * 1 + y.2 4 1) e)) 4 (va_up (y.2 4) 1 (y.2 4 1 + 1)), by rw [ef, ob_some, ss_p (by omega), if_pos rfl, ss_p p2, ss_p p3, ss_p p4, nI_clamp (show a < 2 ^ 31 by omega), nI_clamp (show e < 2 ^ 31 by omega), cd, hap, ob_some], ?_, ?_, ?_, ?_, ?_, ?_⟩
        · rw [if_pos h8, ss_p p3, nI_clamp (show a < 2 ^ 31 by omega), nI_clamp (show e < 2 ^ 31 by omega), cd]
          rw [hq3]
        · refine ⟨⟨?_, ?_, ?_⟩, ⟨?_, ?_, ?_, ?_, a4, a5, a6⟩, ?_, ?_⟩
          · have hh := r0
            unfold SRy at hh ⊢
            simp (disch := omega) only [ite_true, ite_false, not_true_eq_false, not_false_eq_true, up_n, up_s, sA_2]
            exact hh.congr (fun k hk => ⟨up_n _ _ (by omega), up_n _ _ (by omega), up_n _ _ (by omega)⟩)
          · unfold SRy
            simp (disch := omega) only [ite_true, ite_false, not_true_eq_false, not_false_eq_true, up_n, up_s, sA_2]; exact hsr
          · have hh := r2
            unfold SRy at hh ⊢
            simp (disch := omega) only [ite_true, ite_false, not_true_eq_false, not_false_eq_true, up_n, up_s, sA_2]
            exact hh.congr (fun k hk => ⟨up_n _ _ (by omega), up_n _ _ (by omega), up_n _ _ (by omega)⟩)
          · simp (disch := omega) only [ite_true, ite_false, not_true_eq_false, not_false_eq_true, up_n]; exact a0
          · simp (disch := omega) only [ite_true, ite_false, not_true_eq_false, not_false_eq_true, up_n]; exact a1
          · simp (disch := omega) only [ite_true, ite_false, not_true_eq_false, not_false_eq_true, up_n]; exact a2
          · simp (disch := omega) only [ite_true, ite_false, not_true_eq_false, not_false_eq_true, up_n]; exact a3
          · simp (disch := omega) only [ite_true, ite_false, not_true_eq_false, not_false_eq_true, up_n, sA_2]; exact ag
          · simp (disch := omega) only [ite_true, ite_false, not_true_eq_false, not_false_eq_true, up_n, sA_2]; exact b255
        · simp (disch := omega) only [ite_true, ite_false, not_true_eq_false, not_false_eq_true, up_n]
          exact hR.keep (fun j hj => by simp (disch := omega) only [ite_true, ite_false, not_true_eq_false, not_false_eq_true, sA_2, up_n]) (fun _ _ _ => rfl)
        · show y.1 2 ≤ 40 * (k + 1); omega
        · intro s hs
          simp (disch := omega) only [ite_true, ite_false, not_true_eq_false, not_false_eq_true, sA_2, up_s]
          by_cases hc : s = 1
          · subst hc; rw [up_s]; omega
          · rw [up_n _ _ hc]; have := b2 s hs; omega
        · intro s hs
          simp (disch := omega) only [ite_true, ite_false, not_true_eq_false, not_false_eq_true, sA_2, up_n]
          have := b3 s hs; omega
      · rw [if_neg h8] at ef
        exact ⟨-2, x, y, by rw [ef, ob_some, ss_p (by omega), if_neg (by omega)], by rw [if_neg h8], hI0.le (by omega)⟩
    · rw [if_neg hn, if_neg (fun h9 => hn (hnew.mpr h9))]
      exact ⟨-3, x, y, rfl, rfl, hI0.le (by omega)⟩
theorem sim_add2 {x : XS} {y : ST} {k : Nat} {v2 v3 v4 : Int32} (h : Inv x y k) (hk : k < 512) (h2 : fwithin v2 (nI 1) (nI 60) = some 1) (h4 : fwithin v4 (nI 0) (nI 255) = some 1) {a e : Nat} (ha : v2 = nI a ∧ 1 ≤ a ∧ a ≤ 60) (he : v4 = nI e ∧ e ≤ 255) :
    ∃ r x' y', (if v3 ≤ (nI ((x 0).1 6)) then some ((-3), x) else (if (nI (((x 0).1 6) + 1000)) < v3 then some ((-3), x) else (if (nI ((x 7).1 7)) < v3 then ob (fU_isFull (x 8)) (fun r13 => ss (r13 < 2147483648) ((if r13 = 0 then ss (¬ v2 < 0) (ss (¬ v3 < 0) (ss (¬ v4 < 0) (ob (fU_append (x 8) v2.toNatClampNeg v3.toNatClampNeg v4.toNatClampNeg) (fun r20 => some (nI (r20.1 3), va_up (va_up x 7 (sI (x 7) 7 v3.toNatClampNeg)) 8 r20))))) else some ((-2), x)))) else some ((-3), x)))) = some (r, x') ∧ fM_add y (nI 2) v2 v3 v4 = some (r, y') ∧ Inv x' y' (k + 1) := by
  have hI0 := h
  obtain ⟨⟨⟨r0, r1, r2⟩, ⟨a0, a1, a2, a3, a4, a5, a6⟩, ag, b255⟩, hR, b1, b2, b3⟩ := h
  have hr := r2
  unfold SRy at hr
  have hrr := hr
  obtain ⟨⟨wq, wt⟩, ⟨e2, e3, e4, e5, e6, e7⟩, ⟨i1, i2, i3, i4, i5⟩, hu, -, -, -⟩ := hr
  have hA := b2 2 (by omega)
  obtain ⟨rfl, ha1, ha2⟩ := ha
  obtain ⟨rfl, he2⟩ := he
  have p2 : ¬ nI a < 0 := nI_pos (by omega)
  have p4 : ¬ nI e < 0 := nI_pos (by omega)
  rw [addM (by omega) rfl rfl rfl (by omega) i2 (by omega) h2 h4 p2 p4, a2, e7]
  have t0 : (nI (y.1 2)).toInt = ((y.1 2 : Nat) : Int) := nI_toInt (by omega)
  have t1 : (nI (y.1 2 + 1)).toInt = ((y.1 2 + 1 : Nat) : Int) := nI_toInt (by omega)
  have t2 : (nI (y.1 2 + 1000)).toInt = ((y.1 2 + 1000 : Nat) : Int) := nI_toInt (by omega)
  have z0 : (0 : Int32).toInt = 0 := by decide
  have z0' : (nI 0).toInt = 0 := by decide
  by_cases hd : v3 < nI (y.1 2 + 1) ∨ nI (y.1 2 + 1000) < v3
  · refine ⟨-3, x, y, ?_, by rw [if_pos hd], hI0.le (by omega)⟩
    by_cases hd1 : v3 ≤ nI (y.1 2)
    · rw [if_pos hd1]
    · rw [if_neg hd1, if_pos (hd.elim (fun h9 => absurd (i32_le.mpr (by have := i32_lt.mp h9; omega)) hd1) id)]
  · have hd1 : ¬ v3 ≤ nI (y.1 2) := fun h9 => hd (Or.inl (i32_lt.mpr (by have := i32_le.mp h9; omega)))
    have hd2 : ¬ nI (y.1 2 + 1000) < v3 := fun h9 => hd (Or.inr h9)
    have q1 : (y.1 2 : Int) < v3.toInt := by
      have : ¬ v3.toInt ≤ (nI (y.1 2)).toInt := fun h9 => hd1 (i32_le.mpr h9)
      omega
    have q2 : v3.toInt ≤ ((y.1 2 + 1000 : Nat) : Int) := by
      have : ¬ (nI (y.1 2 + 1000)).toInt < v3.toInt := fun h9 => hd2 (i32_lt.mpr h9)
      omega
    have p3 : ¬ v3 < 0 := fun h9 => by have := i32_lt.mp h9; omega
    obtain ⟨d, hdd, rfl⟩ := nI_of p3
    have td : (nI d).toInt = (d : Int) := nI_toInt hdd
    have cd : (nI d).toNatClampNeg = d := nI_clamp hdd
    rw [if_neg hd1, if_neg hd2, if_neg hd]
    -- the newest
    have hnew : (nI (if y.2 4 2 = 0 then 0 else y.2 2 (512 * 2 + y.2 4 2 - 1)) < nI d) ↔ (y.2 4 2 = 0 ∨ nI (y.2 2 (512 * 2 + y.2 4 2 - 1)) < nI d) := by
      by_cases h0 : y.2 4 2 = 0
      · rw [if_pos h0]
        exact ⟨fun _ => Or.inl h0, fun _ => i32_lt.mpr (by omega)⟩
      · rw [if_neg h0]
        exact ⟨fun h9 => Or.inr h9, fun h9 => h9.elim (fun h => absurd h h0) id⟩
    by_cases hn : nI (if y.2 4 2 = 0 then 0 else y.2 2 (512 * 2 + y.2 4 2 - 1)) < nI d
    · rw [if_pos hn, if_pos (hnew.mp hn)]
      have ef := eU_isFull (u := x 8) (by rw [wq.1]; omega)
      rw [wq.1] at ef
      by_cases h8 : y.2 4 2 - y.2 6 2 < 8
      · rw [if_pos h8] at ef
        have hq : (x 8).1 3 < 8 := by rw [wq.1]; exact h8
        obtain ⟨q', hap⟩ : ∃ q', fU_append (x 8) a d e = some q' := ⟨_, eU_append hq⟩
        have hbn : (if y.2 4 2 = 0 then 0 else y.2 2 (512 * 2 + y.2 4 2 - 1)) < 2147483648 := by
          by_cases h0 : y.2 4 2 = 0
          · rw [if_pos h0]; omega
          · rw [if_neg h0, show 512 * 2 + y.2 4 2 - 1 = 512 * 2 + (y.2 4 2 - 1) by omega]
            have := (hu (y.2 4 2 - 1) (by omega)).2.2.2; omega
        have hsr := hrr.add (a := a) (d := d) (e := e) (by omega) h8 ⟨ha1, ha2⟩ he2 ⟨by omega, by omega⟩ (by rw [e7]; exact (nI_ltI hbn hdd).mp hn) hap
        have hq3 : q'.1 3 = y.2 4 2 + 1 - y.2 6 2 := hsr.1.1.1
        refine ⟨nI (q'.1 3), va_up (va_up x 7 (sI (x 7) 7 d)) 8 q', sA (sA (sA (sA y 1 (va_up (y.2 1) (512 * 2 + y.2 4 2) a)) 2 (va_up (y.2 2) (512 * 2 + y.2 4 2) d)) 3 (va_up (y.2 3) (512 * 2 + y.2 4 2) e)) 4 (va_up (y.2 4) 2 (y.2 4 2 + 1)), by rw [ef, ob_some, ss_p (by omega), if_pos rfl, ss_p p2, ss_p p3, ss_p p4, nI_clamp (show a < 2 ^ 31 by omega), nI_clamp (show e < 2 ^ 31 by omega), cd, hap, ob_some], ?_, ?_, ?_, ?_, ?_, ?_⟩
        · rw [if_pos h8, ss_p p3, nI_clamp (show a < 2 ^ 31 by omega), nI_clamp (show e < 2 ^ 31 by omega), cd]
          rw [hq3]
        · refine ⟨⟨?_, ?_, ?_⟩, ⟨?_, ?_, ?_, ?_, a4, a5, a6⟩, ?_, ?_⟩
          · have hh := r0
            unfold SRy at hh ⊢
            simp (disch := omega) only [ite_true, ite_false, not_true_eq_false, not_false_eq_true, up_n, up_s, sA_2]
            exact hh.congr (fun k hk => ⟨up_n _ _ (by omega), up_n _ _ (by omega), up_n _ _ (by omega)⟩)
          · have hh := r1
            unfold SRy at hh ⊢
            simp (disch := omega) only [ite_true, ite_false, not_true_eq_false, not_false_eq_true, up_n, up_s, sA_2]
            exact hh.congr (fun k hk => ⟨up_n _ _ (by omega), up_n _ _ (by omega), up_n _ _ (by omega)⟩)
          · unfold SRy
            simp (disch := omega) only [ite_true, ite_false, not_true_eq_false, not_false_eq_true, up_n, up_s, sA_2]; exact hsr
          · simp (disch := omega) only [ite_true, ite_false, not_true_eq_false, not_false_eq_true, up_n]; exact a0
          · simp (disch := omega) only [ite_true, ite_false, not_true_eq_false, not_false_eq_true, up_n]; exact a1
          · simp (disch := omega) only [ite_true, ite_false, not_true_eq_false, not_false_eq_true, up_n]; exact a2
          · simp (disch := omega) only [ite_true, ite_false, not_true_eq_false, not_false_eq_true, up_n]; exact a3
          · simp (disch := omega) only [ite_true, ite_false, not_true_eq_false, not_false_eq_true, up_n, sA_2]; exact ag
          · simp (disch := omega) only [ite_true, ite_false, not_true_eq_false, not_false_eq_true, up_n, sA_2]; exact b255
        · simp (disch := omega) only [ite_true, ite_false, not_true_eq_false, not_false_eq_true, up_n]
          exact hR.keep (fun j hj => by simp (disch := omega) only [ite_true, ite_false, not_true_eq_false, not_false_eq_true, sA_2, up_n]) (fun _ _ _ => rfl)
        · show y.1 2 ≤ 40 * (k + 1); omega
        · intro s hs
          simp (disch := omega) only [ite_true, ite_false, not_true_eq_false, not_false_eq_true, sA_2, up_s]
          by_cases hc : s = 2
          · subst hc; rw [up_s]; omega
          · rw [up_n _ _ hc]; have := b2 s hs; omega
        · intro s hs
          simp (disch := omega) only [ite_true, ite_false, not_true_eq_false, not_false_eq_true, sA_2, up_n]
          have := b3 s hs; omega
      · rw [if_neg h8] at ef
        exact ⟨-2, x, y, by rw [ef, ob_some, ss_p (by omega), if_neg (by omega)], by rw [if_neg h8], hI0.le (by omega)⟩
    · rw [if_neg hn, if_neg (fun h9 => hn (hnew.mpr h9))]
      exact ⟨-3, x, y, rfl, rfl, hI0.le (by omega)⟩
theorem sim_add {x : XS} {y : ST} {k : Nat} (v1 v2 v3 v4 : Int32) (h : Inv x y k) (hk : k < 512) : ∃ r x' y', fX_add x v1 v2 v3 v4 = some (r, x') ∧ fM_add y v1 v2 v3 v4 = some (r, y') ∧ Inv x' y' (k + 1) := by
  have bad : fM_add y v1 v2 v3 v4 = some ((-1), y) → fX_add x v1 v2 v3 v4 = some ((-1), x) → ∃ r x' y', fX_add x v1 v2 v3 v4 = some (r, x') ∧ fM_add y v1 v2 v3 v4 = some (r, y') ∧ Inv x' y' (k + 1) := fun a b => ⟨-1, x, y, b, a, h.le (by omega)⟩
  rcases strm v1 with ⟨hc, e1, e2⟩ | ⟨e1, e2⟩
  · by_cases h2 : v2 < nI 1 ∨ nI 60 < v2
    · refine bad ?_ ?_
      · unfold fM_add
        rw [e2, ob_some, ss_p (by omega), if_neg (by omega), ewithin, if_pos h2, ob_some, ss_p (by omega), if_pos rfl]
      · unfold fX_add
        rw [e1, ob_some, ss_p (by omega), if_neg (by omega)]
        by_cases h3 : v2 < nI 1
        · rw [if_pos h3]
        · rw [if_neg h3, if_pos (h2.elim (fun h9 => absurd h9 h3) id)]
    · have w2 : fwithin v2 (nI 1) (nI 60) = some 1 := by rw [ewithin, if_neg h2]
      have h3 : ¬ v2 < nI 1 := fun h9 => h2 (Or.inl h9)
      have h5 : ¬ nI 60 < v2 := fun h9 => h2 (Or.inr h9)
      rcases rng v4 255 (by omega) with ⟨e, he, hv4, g1, g2, g3, g4, g5⟩ | ⟨g1, g2⟩ | ⟨g1, g2, g3, g4⟩
      · have t1 : (nI 1).toInt = 1 := by decide
        have t60 : (nI 60).toInt = 60 := by decide
        have z0 : (0 : Int32).toInt = 0 := by decide
        have q1 : 1 ≤ v2.toInt := by
          have : ¬ v2.toInt < (nI 1).toInt := fun h9 => h3 (i32_lt.mpr h9)
          omega
        have q2 : v2.toInt ≤ 60 := by
          have : ¬ (nI 60).toInt < v2.toInt := fun h9 => h5 (i32_lt.mpr h9)
          omega
        obtain ⟨a, ha, hv2⟩ := nI_of (x := v2) (fun h9 => by have := i32_lt.mp h9; omega)
        have ta : (nI a).toInt = (a : Int) := nI_toInt ha
        have ha2 : v2 = nI a ∧ 1 ≤ a ∧ a ≤ 60 := by
          rw [hv2] at q1 q2
          exact ⟨hv2, by omega, by omega⟩
        have he2 : v4 = nI e ∧ e ≤ 255 := ⟨hv4, by omega⟩
        unfold fX_add
        rw [e1, ob_some, ss_p (by omega), if_neg (by omega), if_neg h3, if_neg h5, if_neg g1, if_pos g5]
        rcases hc with rfl | rfl | rfl
        · obtain ⟨r, x', y', k1, k2, k3⟩ := sim_add0 (v3 := v3) h hk w2 g4 ha2 he2
          exact ⟨r, x', y', by rw [if_pos rfl]; exact k1, k2, k3⟩
        · obtain ⟨r, x', y', k1, k2, k3⟩ := sim_add1 (v3 := v3) h hk w2 g4 ha2 he2
          exact ⟨r, x', y', by rw [if_neg (by decide), if_pos rfl]; exact k1, k2, k3⟩
        · obtain ⟨r, x', y', k1, k2, k3⟩ := sim_add2 (v3 := v3) h hk w2 g4 ha2 he2
          exact ⟨r, x', y', by rw [if_neg (by decide), if_neg (by decide), if_pos rfl]; exact k1, k2, k3⟩
      · refine bad ?_ ?_
        · unfold fM_add
          rw [e2, ob_some, ss_p (by omega), if_neg (by omega), w2, ob_some, ss_p (by omega), if_neg (by omega), g2, ob_some, ss_p (by omega), if_neg (by omega)]
        · unfold fX_add
          rw [e1, ob_some, ss_p (by omega), if_neg (by omega), if_neg h3, if_neg h5, if_pos g1]
      · refine bad ?_ ?_
        · unfold fM_add
          rw [e2, ob_some, ss_p (by omega), if_neg (by omega), w2, ob_some, ss_p (by omega), if_neg (by omega), g3, ob_some, ss_p (by omega), if_neg (by omega)]
        · unfold fX_add
          rw [e1, ob_some, ss_p (by omega), if_neg (by omega), if_neg h3, if_neg h5, if_neg g1, if_neg g4]
  · refine bad ?_ ?_
    · unfold fM_add
      rw [e2, ob_some, ss_p (by omega), if_pos rfl]
    · unfold fX_add
      rw [e1, ob_some, ss_p (by omega), if_pos rfl]
