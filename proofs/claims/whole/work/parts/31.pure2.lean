/-- a packet: so many bytes are used, and its sixteen bytes are c -/
def PkR (k : ST) (c : Nat → Nat) (n : Nat) : Prop := k.1 1 = n ∧ ∀ i, i < 16 → k.2 0 i = c i
theorem and255 (x : Nat) : x &&& 255 = x % 256 := Nat.and_two_pow_sub_one_eq_mod x 8
theorem eP_clear_L : ∀ (fu i : Nat) (k : ST), i ≤ 16 → 16 - i < fu → (∀ p, p < i → k.2 0 p = 255) → ∃ k' : ST, fP_clear_L2 fu i k = some (16, k') ∧ ∀ p, p < 16 → k'.2 0 p = 255 := by
  intro fu
  induction fu with
  | zero => intro i k _ h; omega
  | succ fu ih =>
    intro i k hi hf h
    by_cases hc : i = 16
    · subst hc
      refine ⟨k, ?_, h⟩
      rw [fP_clear_L2]
      simp (disch := omega) only [ite_true, ite_false, not_true_eq_false, not_false_eq_true, ss_p, if_pos]
    · obtain ⟨k', e1, e2⟩ := ih (i + 1) (sA k 0 (va_up (k.2 0) i 255)) (by omega) (by omega) (by
        intro p hp
        show va_up (k.2 0) i 255 p = 255
        by_cases h2 : p = i
        · subst h2; exact up_s _ _ _
        · rw [up_n _ _ h2]; exact h p (by omega))
      refine ⟨k', ?_, e2⟩
      rw [fP_clear_L2]
      simp (disch := omega) only [ite_true, ite_false, not_true_eq_false, not_false_eq_true, ss_p, if_neg]
      exact e1
theorem eP_clear (k : ST) : ∃ k' : ST, fP_clear k = some k' ∧ PkR k' (fun _ => 255) 0 := by
  obtain ⟨k', e1, e2⟩ := eP_clear_L 100 0 k (by omega) (by omega) (fun p hp => by omega)
  refine ⟨sI k' 1 0, ?_, by rw [sI_1, up_s], e2⟩
  simp only [fP_clear, e1, ob_some]
theorem eP_put {k : ST} {c : Nat → Nat} {n : Nat} (x : Nat) (h : PkR k c n) (hn : n < 16) : ∃ k' : ST, fP_put k x = some k' ∧ PkR k' (va_up c n (x % 256)) (n + 1) := by
  obtain ⟨h1, h2⟩ := h
  refine ⟨sA (sI k 1 (k.1 1 + 1)) 0 (va_up (k.2 0) (k.1 1) (x &&& 255)), ?_, ?_, ?_⟩
  · simp (disch := omega) only [ite_true, ite_false, not_true_eq_false, not_false_eq_true, fP_put, ss_p, if_neg]
  · show va_up k.1 1 (k.1 1 + 1) 1 = n + 1
    rw [up_s, h1]
  · intro i hi
    show va_up (k.2 0) (k.1 1) (x &&& 255) i = _
    rw [h1, and255]
    by_cases hc : i = n
    · subst hc; rw [up_s, up_s]
    · rw [up_n _ _ hc, up_n _ _ hc]; exact h2 i hi
theorem eP_putTime {k : ST} {c : Nat → Nat} {n x : Nat} (hx : x < 2147483648) (h : PkR k c n) (hn : n + 1 < 16) : ∃ k' : ST, fP_putTime k x = some k' ∧ PkR k' (va_up (va_up c n (x / 256 % 256)) (n + 1) (x % 256)) (n + 2) := by
  obtain ⟨k1, e1, h1⟩ := eP_put (x / 256) h (by omega)
  obtain ⟨k2, e2, h2⟩ := eP_put x h1 (by omega)
  refine ⟨k2, ?_, h2⟩
  simp (disch := omega) only [ite_true, ite_false, not_true_eq_false, not_false_eq_true, fP_putTime, ss_p, e1, e2, ob_some]
theorem eP_byteAt {k : ST} {i : Nat} (hi : i < 16) : fP_byteAt k i = some (k.2 0 i) := by
  have e := eisPacketIndexN (i := i) (by omega)
  rw [if_pos hi] at e
  simp (disch := omega) only [ite_true, ite_false, not_true_eq_false, not_false_eq_true, fP_byteAt, e, ob_some, ss_p, if_neg]
theorem eP_timeAt {k : ST} {i : Nat} (hi : i + 1 < 16) : fP_timeAt k i = some (k.2 0 i * 256 + k.2 0 (i + 1)) := by
  simp only [fP_timeAt, eP_byteAt (k := k) (i := i) (by omega), eP_byteAt (k := k) (i := i + 1) hi, ob_some]
theorem eP_copy_L (k2 : ST) : ∀ (fu i : Nat) (k : ST), i ≤ 16 → 16 - i < fu → (∀ p, p < i → k.2 0 p = k2.2 0 p) → ∃ k' : ST, fP_copyFrom_L2 k2 fu i k = some (16, k') ∧ ∀ p, p < 16 → k'.2 0 p = k2.2 0 p := by
  intro fu
  induction fu with
  | zero => intro i k _ h; omega
  | succ fu ih =>
    intro i k hi hf h
    by_cases hc : i = 16
    · subst hc
      refine ⟨k, ?_, h⟩
      rw [fP_copyFrom_L2]
      simp (disch := omega) only [ite_true, ite_false, not_true_eq_false, not_false_eq_true, ss_p, if_pos]
    · obtain ⟨k', e1, e2⟩ := ih (i + 1) (sA k 0 (va_up (k.2 0) i (k2.2 0 i))) (by omega) (by omega) (by
        intro p hp
        show va_up (k.2 0) i (k2.2 0 i) p = k2.2 0 p
        by_cases h2 : p = i
        · subst h2; exact up_s _ _ _
        · rw [up_n _ _ h2]; exact h p (by omega))
      refine ⟨k', ?_, e2⟩
      rw [fP_copyFrom_L2]
      simp (disch := omega) only [ite_true, ite_false, not_true_eq_false, not_false_eq_true, ss_p, if_neg]
      exact e1
theorem eP_copyFrom (k k2 : ST) : ∃ k' : ST, fP_copyFrom k k2 = some k' ∧ ∀ p, p < 16 → k'.2 0 p = k2.2 0 p := by
  obtain ⟨k', e1, e2⟩ := eP_copy_L k2 100 0 k (by omega) (by omega) (fun p hp => by omega)
  exact ⟨k', by simp only [fP_copyFrom, e1, ob_some], e2⟩
theorem eP_flip {k : ST} {i x : Nat} (hi : i < 16) : fP_flip k i x = some (sA k 0 (va_up (k.2 0) i (k.2 0 i ^^^ x))) := by
  have e := eisPacketIndexN (i := i) (by omega)
  rw [if_pos hi] at e
  simp (disch := omega) only [ite_true, ite_false, not_true_eq_false, not_false_eq_true, fP_flip, e, ob_some, ss_p, if_neg]
