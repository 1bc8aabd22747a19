/-- c with n bytes written from place a on (from the i-th of them): the bytes of a unit with seed sd, S of them sent before -/
def wrb (c : Nat → Nat) (a i n sd S : Nat) : Nat → Nat := fun p => if a + i ≤ p ∧ p < a + n then (sd + 7 * (S + (p - a))) % 256 else c p
theorem wrb_e (c : Nat → Nat) (a n sd S : Nat) : wrb c a n n sd S = c := by
  funext p; unfold wrb; exact if_neg (by omega)
theorem wrb_s (c : Nat → Nat) (a i n sd S : Nat) (h : i < n) : wrb (va_up c (a + i) ((sd + 7 * (S + i)) % 256)) a (i + 1) n sd S = wrb c a i n sd S := by
  funext p
  unfold wrb
  by_cases h1 : p = a + i
  · subst h1
    rw [if_neg (by omega), if_pos (by omega), up_s, show a + i - a = i by omega]
  · rw [up_n _ _ h1]
    by_cases h2 : a + (i + 1) ≤ p ∧ p < a + n
    · rw [if_pos h2, if_pos (by omega)]
    · rw [if_neg h2, if_neg (by omega)]
theorem eS_send_L (v u : ST) (n a : Nat) (hn : a + n ≤ 16) : ∀ (fu i : Nat) (k : ST) (c : Nat → Nat), PkR k c (a + i) → i ≤ n → n - i < fu →
    ∃ k' : ST, fS_sendBytes_L2 v u n fu i k = some (n, k') ∧ PkR k' (wrb c a i n (u.2 2 0) (v.1 2)) (a + n) := by
  intro fu
  induction fu with
  | zero => intro i k c _ _ h; omega
  | succ fu ih =>
    intro i k c hk hi hf
    rw [fS_sendBytes_L2]
    by_cases hc : i = n
    · subst hc
      refine ⟨k, ?_, by rw [wrb_e]; exact hk⟩
      simp (disch := omega) only [ite_true, ite_false, not_true_eq_false, not_false_eq_true, ss_p, if_pos]
    · obtain ⟨k1, e1, hk1⟩ := eP_put (u.2 2 0 + 7 * (v.1 2 + i)) hk (by omega)
      obtain ⟨k', e2, hk2⟩ := ih (i + 1) k1 _ hk1 (by omega) (by omega)
      refine ⟨k', ?_, ?_⟩
      · simp (disch := omega) only [ite_true, ite_false, not_true_eq_false, not_false_eq_true, ss_p, if_neg, fU_firstSeed, ob_some, e1, e2]
      · rw [wrb_s _ _ _ _ _ _ (by omega)] at hk2; exact hk2
theorem eS_send {v q t k : ST} {f g h c : Nat → Nat} {t2 o A L C S lo nx la n a : Nat} (hR : SR v q t f g h t2 o A L C S lo nx la) (hA : C < A) (hst : 0 < S ∨ C - L < 8) (hn : n ≤ f (o + C) - S) (hn0 : 0 < n) (hlo : lo + n ≤ 28) (hk : PkR k c a) (ha : a + n ≤ 16) :
    ∃ v' q' t' k' : ST, fS_sendBytes v q t k n = some (v', q', t', k') ∧ PkR k' (wrb c a 0 n (h (o + C)) S) (a + n) ∧
      ((S + n ≠ f (o + C) ∧ SR v' q' t' f g h t2 o A L C (S + n) (lo + n) nx la) ∨ (S + n = f (o + C) ∧ SR v' q' t' f g h t2 o A L (C + 1) 0 (lo + n) nx la)) := by
  obtain ⟨⟨wq, wt⟩, ⟨e2, e3, e4, e5, e6, e7⟩, ⟨i1, i2, i3, i4, i5⟩, hu, hm, hd, ⟨s1, s2, s3, s4, s5, s6⟩⟩ := hR
  obtain ⟨qf, qg, qh⟩ := wq.2 0 (by omega)
  rw [Nat.add_zero] at qf qg qh
  have hf := hu C hA
  have hS := s1 hA
  obtain ⟨k', ek, hk'⟩ := eS_send_L v q n a ha 100 0 k c (by rw [Nat.add_zero]; exact hk) (by omega) (by omega)
  rw [qh, e2] at hk'
  by_cases hend : S + n = f (o + C)
  · have wt1 : Win t f g h (o + L) (C - L) := wt
    obtain ⟨t', et, wt2⟩ := eU_app (x := f (o + C)) (y := g (o + C)) (z := h (o + C)) (f' := f) (g' := g) (h' := h) wt1 (by have := s3; omega) (fun i _ => ⟨rfl, rfl, rfl⟩) (by rw [show o + L + (C - L) = o + C by omega]) (by rw [show o + L + (C - L) = o + C by omega]) (by rw [show o + L + (C - L) = o + C by omega])
    have wq' : Win q f g h (o + C) ((A - C - 1) + 1) := by rw [show A - C - 1 + 1 = A - C by omega]; exact wq
    obtain ⟨q', eq', wq2⟩ := eU_drop wq' (by omega)
    refine ⟨sI (sI (sI (sI v 2 (v.1 2 + n)) 3 (v.1 3 + n)) 4 (v.1 4 + n)) 2 0, q', t', k', ?_, hk', Or.inr ⟨hend, ?_⟩⟩
    · simp (disch := omega) only [ite_true, ite_false, not_true_eq_false, not_false_eq_true, fS_sendBytes, ek, ob_some, fU_firstSize, fU_firstDue, fU_firstSeed, qf, qg, qh, ss_p, if_neg, et, fS_dropCurrent, eq']
    · refine ⟨⟨by rw [show o + (C + 1) = o + C + 1 by omega, show A - (C + 1) = A - C - 1 by omega]; exact wq2, by rw [show C + 1 - L = C - L + 1 by omega]; exact wt2⟩, ⟨by simp (disch := omega) only [ite_true, ite_false, not_true_eq_false, not_false_eq_true, sI_1, up_s, up_n], by simp (disch := omega) only [ite_true, ite_false, not_true_eq_false, not_false_eq_true, sI_1, up_s, up_n, e3], ?_, by simp (disch := omega) only [ite_true, ite_false, not_true_eq_false, not_false_eq_true, sI_1, up_s, up_n, e5], by simp (disch := omega) only [ite_true, ite_false, not_true_eq_false, not_false_eq_true, sI_1, up_s, up_n, e6], by simp (disch := omega) only [ite_true, ite_false, not_true_eq_false, not_false_eq_true, sI_1, up_s, up_n, e7]⟩, ⟨by omega, by omega, by omega, ?_, i5⟩, hu, hm, hd, ⟨fun hlt => ?_, fun _ => rfl, fun h0 => by omega, by omega, s5, by omega⟩⟩
      · simp (disch := omega) only [ite_true, ite_false, not_true_eq_false, not_false_eq_true, sI_1, up_s, up_n, e4]
        rw [show C + 1 - L = (C - L) + 1 by omega, sm_s, show o + L + (C - L) = o + C by omega]; omega
      · have := s3; omega
      · have := (hu (C + 1) hlt).1; omega
  · refine ⟨sI (sI (sI v 2 (v.1 2 + n)) 3 (v.1 3 + n)) 4 (v.1 4 + n), q, t, k', ?_, hk', Or.inl ⟨hend, ?_⟩⟩
    · simp (disch := omega) only [ite_true, ite_false, not_true_eq_false, not_false_eq_true, fS_sendBytes, ek, ob_some, fU_firstSize, qf, ss_p, if_pos]
    · refine ⟨⟨wq, wt⟩, ⟨by simp (disch := omega) only [ite_true, ite_false, not_true_eq_false, not_false_eq_true, sI_1, up_s, up_n, e2], by simp (disch := omega) only [ite_true, ite_false, not_true_eq_false, not_false_eq_true, sI_1, up_s, up_n, e3], ?_, by simp (disch := omega) only [ite_true, ite_false, not_true_eq_false, not_false_eq_true, sI_1, up_s, up_n, e5], by simp (disch := omega) only [ite_true, ite_false, not_true_eq_false, not_false_eq_true, sI_1, up_s, up_n, e6], by simp (disch := omega) only [ite_true, ite_false, not_true_eq_false, not_false_eq_true, sI_1, up_s, up_n, e7]⟩, ⟨i1, i2, i3, i4, i5⟩, hu, hm, hd, ⟨fun _ => by omega, fun h9 => by omega, fun _ => by have := s3; omega, by omega, s5, s6⟩⟩
      simp (disch := omega) only [ite_true, ite_false, not_true_eq_false, not_false_eq_true, sI_1, up_s, up_n, e4]; omega
theorem eM_make_L2 (s n : Nat) (p1 p2 : Nat × ST) (hs : s < 3) (hx : 512 * s + p1.2.2 6 s < 1536) (ha : p2.1 + n ≤ 16) (sd S : Nat) (hsd : sd ≤ 255) (hS : S ≤ 60) : ∀ (fu i : Nat) (u : ST), i ≤ n → n - i < fu → u.2 3 (512 * s + p1.2.2 6 s) = sd → u.2 7 s = S →
    ∃ u' : ST, fM_make_L273 s n p1 p2 fu i u = some (n, u') ∧ u'.1 = u.1 ∧ (∀ j, j ≠ 10 → u'.2 j = u.2 j) ∧ u'.2 10 = wrb (u.2 10) p2.1 i n sd S := by
  intro fu
  induction fu with
  | zero => intro i u _ h; omega
  | succ fu ih =>
    intro i u hi hf h3 h7
    rw [fM_make_L273]
    by_cases hc : i = n
    · subst hc
      refine ⟨u, ?_, rfl, fun _ _ => rfl, by rw [wrb_e]⟩
      simp (disch := omega) only [ite_true, ite_false, not_true_eq_false, not_false_eq_true, ss_p, if_pos]
    · obtain ⟨u', e1, e2, e3, e4⟩ := ih (i + 1) (sA u 10 (va_up (u.2 10) (p2.1 + i) ((sd + 7 * (S + i)) % 256))) (by omega) (by omega) h3 h7
      refine ⟨u', ?_, e2, fun j hj => by rw [e3 j hj, sA_2, up_n _ _ hj], ?_⟩
      · simp (disch := omega) only [ite_true, ite_false, not_true_eq_false, not_false_eq_true, ss_p, if_neg, h3, h7]
        exact e1
      · rw [e4, sA_2, up_s, wrb_s _ _ _ _ _ _ (by omega)]
theorem eM_make_L1 : ∀ (fu i : Nat) (u : ST), i ≤ 16 → 16 - i < fu → (∀ p, p < i → u.2 10 p = 255) →
    ∃ u' : ST, fM_make_L60 fu i u = some (16, u') ∧ u'.1 = u.1 ∧ (∀ j, j ≠ 10 → u'.2 j = u.2 j) ∧ ∀ p, p < 16 → u'.2 10 p = 255 := by
  intro fu
  induction fu with
  | zero => intro i u _ h; omega
  | succ fu ih =>
    intro i u hi hf h
    rw [fM_make_L60]
    by_cases hc : i = 16
    · subst hc
      refine ⟨u, ?_, rfl, fun _ _ => rfl, h⟩
      simp (disch := omega) only [ite_true, ite_false, not_true_eq_false, not_false_eq_true, ss_p, if_pos]
    · obtain ⟨u', e1, e2, e3, e4⟩ := ih (i + 1) (sA u 10 (va_up (u.2 10) i 255)) (by omega) (by omega) (by
        intro p hp
        show va_up (u.2 10) i 255 p = 255
        by_cases h2 : p = i
        · subst h2; exact up_s _ _ _
        · rw [up_n _ _ h2]; exact h p (by omega))
      refine ⟨u', ?_, e2, fun j hj => by rw [e3 j hj, sA_2, up_n _ _ hj], e4⟩
      simp (disch := omega) only [ite_true, ite_false, not_true_eq_false, not_false_eq_true, ss_p, if_neg]
      exact e1
