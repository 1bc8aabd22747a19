theorem eU_due0 {u : ST} {t : Nat} (h : u.1 3 = 0) : fU_isFirstDueAt u t = some 0 := by
  have e := eU_isEmpty (u := u) (by omega)
  rw [if_pos h] at e
  simp (disch := omega) only [ite_true, ite_false, not_true_eq_false, not_false_eq_true, fU_isFirstDueAt, e, ob_some, ss_p, if_pos]
/-- n numbers of f from a on, added -/
def sm (f : Nat → Nat) (a : Nat) : Nat → Nat
  | 0 => 0
  | n + 1 => f a + sm f (a + 1) n
theorem sm_s (f : Nat → Nat) : ∀ (n a : Nat), sm f a (n + 1) = sm f a n + f (a + n) := by
  intro n
  induction n with
  | zero => intro a; show f a + 0 = 0 + f (a + 0); rw [Nat.add_zero, Nat.zero_add, Nat.add_zero]
  | succ n ih =>
    intro a
    show f a + sm f (a + 1) (n + 1) = f a + sm f (a + 1) n + f (a + (n + 1))
    rw [ih (a + 1), show a + 1 + n = a + (n + 1) by omega]; omega
theorem sm_le (f : Nat → Nat) (b : Nat) : ∀ (n a : Nat), (∀ i, i < n → f (a + i) ≤ b) → sm f a n ≤ n * b := by
  intro n
  induction n with
  | zero => intro a _; show 0 ≤ 0 * b; omega
  | succ n ih =>
    intro a h
    have h1 := ih (a + 1) (fun i hi => by rw [show a + 1 + i = a + (i + 1) by omega]; exact h (i + 1) (by omega))
    have h2 := h 0 (by omega)
    rw [Nat.add_zero] at h2
    show f a + sm f (a + 1) n ≤ (n + 1) * b
    rw [Nat.add_mul]; omega
theorem sm_eq (f f' : Nat → Nat) : ∀ (n a : Nat), (∀ i, i < n → f' (a + i) = f (a + i)) → sm f' a n = sm f a n := by
  intro n
  induction n with
  | zero => intro a _; rfl
  | succ n ih =>
    intro a h
    have h1 := ih (a + 1) (fun i hi => by rw [show a + 1 + i = a + (i + 1) by omega]; exact h (i + 1) (by omega))
    have h2 := h 0 (by omega)
    rw [Nat.add_zero] at h2
    show f' a + sm f' (a + 1) n = f a + sm f (a + 1) n
    rw [h1, h2]
/-- one stream: the sender's cells (v, queue q, store t) beside the reference's numbers: units f g h (size, due, seed) from place o on, A added, L alive from, C current, S sent, lo low, nx next, la late; tm: no unit that lives is due before it -/
def SR (v q t : ST) (f g h : Nat → Nat) (tm o A L C S lo nx la : Nat) : Prop :=
  (Win q f g h (o + C) (A - C) ∧ Win t f g h (o + L) (C - L)) ∧
  (v.1 2 = S ∧ v.1 3 = lo ∧ v.1 4 = S + sm f (o + L) (C - L) ∧ v.1 5 = nx ∧ v.1 6 = la ∧ v.1 7 = (if A = 0 then 0 else g (o + A - 1))) ∧
  (L ≤ C ∧ C ≤ A ∧ A - C ≤ 8 ∧ C - L ≤ 8 ∧ A ≤ 512) ∧
  (∀ k, k < A → 1 ≤ f (o + k) ∧ f (o + k) ≤ 60 ∧ h (o + k) ≤ 255 ∧ g (o + k) ≤ tm + 1000) ∧
  (∀ k, k + 1 < A → g (o + k) < g (o + (k + 1))) ∧ (∀ k, L ≤ k → k < A → tm ≤ g (o + k)) ∧
  ((C < A → S < f (o + C)) ∧ (C = A → S = 0) ∧ (0 < S → C - L < 8) ∧ lo ≤ 28 ∧ nx < 16 ∧ la ≤ C)
theorem mono_of {g : Nat → Nat} {o A : Nat} (h : ∀ k, k + 1 < A → g (o + k) < g (o + (k + 1))) : ∀ (d i : Nat), i + d + 1 < A → g (o + i) < g (o + (i + d + 1)) := by
  intro d
  induction d with
  | zero => intro i hi; exact h i hi
  | succ d ih => intro i hi; exact Nat.lt_trans (ih i (by omega)) (h (i + d + 1) hi)
theorem eS_begin {v q t : ST} {f g h : Nat → Nat} {tm o A L C S lo nx la lk : Nat} (hR : SR v q t f g h tm o A L C S lo nx la) (ht : tm < 1000000) (hk : lk ≤ 14) :
    ∃ v' q' t' : ST, fS_beginTick v q t tm lk = some (v', q', t') ∧
      ((¬ (L < A ∧ g (o + L) = tm) ∧ SR v' q' t' f g h (tm + 1) o A L C S (lo - lk) nx la) ∨
       ((L < A ∧ g (o + L) = tm) ∧ L = C ∧ SR v' q' t' f g h (tm + 1) o A (L + 1) (C + 1) 0 (lo - lk) nx (la + 1)) ∨
       ((L < A ∧ g (o + L) = tm) ∧ L ≠ C ∧ SR v' q' t' f g h (tm + 1) o A (L + 1) C S (lo - lk) nx la)) := by
  obtain ⟨⟨wq, wt⟩, ⟨e2, e3, e4, e5, e6, e7⟩, ⟨i1, i2, i3, i4, i5⟩, hu, hm, hd, ⟨s1, s2, s3, s4, s5, s6⟩⟩ := hR
  have hmm := mono_of hm
  have hsum : sm f (o + L) (C - L) ≤ (C - L) * 60 := sm_le f 60 (C - L) (o + L) (fun i hi => by rw [show o + L + i = o + (L + i) by omega]; exact (hu (L + i) (by omega)).2.1)
  by_cases hc : L < A ∧ g (o + L) = tm
  · by_cases hLC : L = C
    · -- the current unit is late
      subst hLC
      have t0 : t.1 3 = 0 := by rw [wt.1]; omega
      have q1 : q.1 3 = A - L := wq.1
      have qd : q.2 1 0 = tm := by rw [(wq.2 0 (by omega)).2.1, Nat.add_zero]; exact hc.2
      have hz : sm f (o + L) (L - L) = 0 := by rw [Nat.sub_self]; rfl
      have ed := eU_isFirstDueAt (u := q) (t := tm) (by omega) (by omega) (by omega)
      rw [if_pos ⟨by omega, qd⟩] at ed
      have wq' : Win q f g h (o + L) ((A - L - 1) + 1) := by rw [show A - L - 1 + 1 = A - L by omega]; exact wq
      obtain ⟨q', eq', wq2⟩ := eU_drop wq' (by omega)
      refine ⟨sI (sI (sI (sI v 3 (v.1 3 - lk)) 4 (S - S)) 6 (la + 1)) 2 0, q', t, ?_, Or.inr (Or.inl ⟨hc, rfl, ?_⟩)⟩
      · simp (disch := omega) only [ite_true, ite_false, not_true_eq_false, not_false_eq_true, fS_beginTick, ss_p, eU_due0 t0, ob_some, if_pos, if_neg, ed, sI_1, up_s, up_n, e2, e3, e4, e6, hz, Nat.add_zero, fS_dropCurrent, eq']
      · refine ⟨⟨by rw [show o + (L + 1) = o + L + 1 by omega, show A - (L + 1) = A - L - 1 by omega]; exact wq2, ?_⟩, ⟨by simp (disch := omega) only [ite_true, ite_false, not_true_eq_false, not_false_eq_true, sI_1, up_s, up_n], by simp (disch := omega) only [ite_true, ite_false, not_true_eq_false, not_false_eq_true, sI_1, up_s, up_n, e3], ?_, by simp (disch := omega) only [ite_true, ite_false, not_true_eq_false, not_false_eq_true, sI_1, up_s, up_n, e5], by simp (disch := omega) only [ite_true, ite_false, not_true_eq_false, not_false_eq_true, sI_1, up_s, up_n], by simp (disch := omega) only [ite_true, ite_false, not_true_eq_false, not_false_eq_true, sI_1, up_s, up_n, e7]⟩, ⟨by omega, by omega, by omega, by omega, by omega⟩, fun k hk => ?_, hm, fun k h1 h2 => ?_, ⟨fun hlt => ?_, fun _ => rfl, fun h0 => by omega, by omega, s5, by omega⟩⟩
        · refine ⟨by rw [t0]; omega, fun i hi => by omega⟩
        · simp (disch := omega) only [ite_true, ite_false, not_true_eq_false, not_false_eq_true, sI_1, up_s, up_n]
          rw [Nat.sub_self, Nat.sub_self]; rfl
        · obtain ⟨a1, a2, a3, a4⟩ := hu k hk; exact ⟨a1, a2, a3, by omega⟩
        · have := hmm (k - L - 1) L (by omega)
          rw [show L + (k - L - 1) + 1 = k by omega] at this; omega
        · have := (hu (L + 1) hlt).1; omega
    · -- the first of the store goes
      have t1 : t.1 3 = C - L := wt.1
      have td : t.2 1 0 = tm := by rw [(wt.2 0 (by omega)).2.1, Nat.add_zero]; exact hc.2
      have tf : t.2 0 0 = f (o + L) := by rw [(wt.2 0 (by omega)).1, Nat.add_zero]
      have ed := eU_isFirstDueAt (u := t) (t := tm) (by omega) (by omega) (by omega)
      rw [if_pos ⟨by omega, td⟩] at ed
      have wt' : Win t f g h (o + L) ((C - L - 1) + 1) := by rw [show C - L - 1 + 1 = C - L by omega]; exact wt
      obtain ⟨t', et', wt2⟩ := eU_drop wt' (by omega)
      have hsm : sm f (o + L) (C - L) = f (o + L) + sm f (o + L + 1) (C - L - 1) := by
        rw [show C - L = (C - L - 1) + 1 by omega]; rfl
      have qe : fU_isFirstDueAt q tm = some 0 := by
        by_cases hq0 : A = C
        · exact eU_due0 (by rw [wq.1]; omega)
        · have qd : q.2 1 0 = g (o + C) := by rw [(wq.2 0 (by omega)).2.1, Nat.add_zero]
          have h9 := hmm (C - L - 1) L (by omega)
          rw [show L + (C - L - 1) + 1 = C by omega] at h9
          have h8 := (hu C (by omega)).2.2.2
          have e := eU_isFirstDueAt (u := q) (t := tm) (by rw [wq.1]; omega) (by omega) (by omega)
          rw [if_neg (by rintro ⟨-, h7⟩; omega)] at e
          exact e
      refine ⟨sI (sI v 3 (v.1 3 - lk)) 4 (v.1 4 - f (o + L)), q, t', ?_, Or.inr (Or.inr ⟨hc, hLC, ?_⟩)⟩
      · simp (disch := omega) only [ite_true, ite_false, not_true_eq_false, not_false_eq_true, fS_beginTick, ss_p, ed, ob_some, if_neg, fU_firstSize, tf, et', qe, if_pos]
      · refine ⟨⟨wq, by rw [show o + (L + 1) = o + L + 1 by omega, show C - (L + 1) = C - L - 1 by omega]; exact wt2⟩, ⟨by simp (disch := omega) only [ite_true, ite_false, not_true_eq_false, not_false_eq_true, sI_1, up_s, up_n, e2], by simp (disch := omega) only [ite_true, ite_false, not_true_eq_false, not_false_eq_true, sI_1, up_s, up_n, e3], ?_, by simp (disch := omega) only [ite_true, ite_false, not_true_eq_false, not_false_eq_true, sI_1, up_s, up_n, e5], by simp (disch := omega) only [ite_true, ite_false, not_true_eq_false, not_false_eq_true, sI_1, up_s, up_n, e6], by simp (disch := omega) only [ite_true, ite_false, not_true_eq_false, not_false_eq_true, sI_1, up_s, up_n, e7]⟩, ⟨by omega, by omega, by omega, by omega, by omega⟩, fun k hk => ?_, hm, fun k h1 h2 => ?_, ⟨s1, s2, fun h0 => by have := s3 h0; omega, by omega, s5, by omega⟩⟩
        · simp (disch := omega) only [ite_true, ite_false, not_true_eq_false, not_false_eq_true, sI_1, up_s, up_n]
          rw [e4, hsm, show o + (L + 1) = o + L + 1 by omega, show C - (L + 1) = C - L - 1 by omega]; omega
        · obtain ⟨a1, a2, a3, a4⟩ := hu k hk; exact ⟨a1, a2, a3, by omega⟩
        · have := hmm (k - L - 1) L (by omega)
          rw [show L + (k - L - 1) + 1 = k by omega] at this; omega
  · -- nothing is due
    have hall : ∀ k, L ≤ k → k < A → tm + 1 ≤ g (o + k) := by
      intro k h1 h2
      have hL := hd L (by omega) (by omega)
      by_cases hk : k = L
      · subst hk
        have : ¬ g (o + k) = tm := fun h9 => hc ⟨h2, h9⟩
        omega
      · have := hmm (k - L - 1) L (by omega)
        rw [show L + (k - L - 1) + 1 = k by omega] at this; omega
    have te : fU_isFirstDueAt t tm = some 0 := by
      by_cases h0 : C = L
      · exact eU_due0 (by rw [wt.1]; omega)
      · have td : t.2 1 0 = g (o + L) := by rw [(wt.2 0 (by omega)).2.1, Nat.add_zero]
        have h8 := (hu L (by omega)).2.2.2
        have h7 := hall L (by omega) (by omega)
        have e := eU_isFirstDueAt (u := t) (t := tm) (by rw [wt.1]; omega) (by omega) (by omega)
        rw [if_neg (by rintro ⟨-, h7⟩; omega)] at e
        exact e
    have qe : fU_isFirstDueAt q tm = some 0 := by
      by_cases h0 : A = C
      · exact eU_due0 (by rw [wq.1]; omega)
      · have qd : q.2 1 0 = g (o + C) := by rw [(wq.2 0 (by omega)).2.1, Nat.add_zero]
        have h8 := (hu C (by omega)).2.2.2
        have h7 := hall C (by omega) (by omega)
        have e := eU_isFirstDueAt (u := q) (t := tm) (by rw [wq.1]; omega) (by omega) (by omega)
        rw [if_neg (by rintro ⟨-, h7⟩; omega)] at e
        exact e
    refine ⟨sI v 3 (v.1 3 - lk), q, t, ?_, Or.inl ⟨hc, ?_⟩⟩
    · simp (disch := omega) only [ite_true, ite_false, not_true_eq_false, not_false_eq_true, fS_beginTick, ss_p, te, ob_some, qe, if_pos]
    · refine ⟨⟨wq, wt⟩, ⟨by simp (disch := omega) only [ite_true, ite_false, not_true_eq_false, not_false_eq_true, sI_1, up_s, up_n, e2], by simp (disch := omega) only [ite_true, ite_false, not_true_eq_false, not_false_eq_true, sI_1, up_s, up_n, e3], by simp (disch := omega) only [ite_true, ite_false, not_true_eq_false, not_false_eq_true, sI_1, up_s, up_n, e4], by simp (disch := omega) only [ite_true, ite_false, not_true_eq_false, not_false_eq_true, sI_1, up_s, up_n, e5], by simp (disch := omega) only [ite_true, ite_false, not_true_eq_false, not_false_eq_true, sI_1, up_s, up_n, e6], by simp (disch := omega) only [ite_true, ite_false, not_true_eq_false, not_false_eq_true, sI_1, up_s, up_n, e7]⟩, ⟨i1, i2, i3, i4, i5⟩, fun k hk => ?_, hm, hall, ⟨s1, s2, s3, by omega, s5, s6⟩⟩
      obtain ⟨a1, a2, a3, a4⟩ := hu k hk; exact ⟨a1, a2, a3, by omega⟩
