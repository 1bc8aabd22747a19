theorem ob_some {α β : Type} (v : α) (f : α → Option β) : ob (some v) f = f v := rfl
theorem lt_def {α β : Type} (v : α) (f : α → Option β) : lt v f = f v := rfl
theorem sI_1 (u : ST) (k x j : Nat) : (sI u k x).1 j = va_up u.1 k x j := rfl
theorem sI_2 (u : ST) (k x : Nat) : (sI u k x).2 = u.2 := rfl
theorem sA_1 (u : ST) (j : Nat) (g : Nat → Nat) : (sA u j g).1 = u.1 := rfl
theorem sA_2 (u : ST) (j : Nat) (g : Nat → Nat) (i : Nat) : (sA u j g).2 i = va_up u.2 j g i := rfl
theorem up_s {α : Type} (f : Nat → α) (k : Nat) (x : α) : va_up f k x k = x := by unfold va_up; exact if_pos rfl
theorem up_n {α : Type} (f : Nat → α) {k j : Nat} (x : α) (h : j ≠ k) : va_up f k x j = f j := by unfold va_up; exact if_neg h
/-- a row of units shows n units of three long rows from place a on -/
def Win (u : ST) (f g h : Nat → Nat) (a n : Nat) : Prop := u.1 3 = n ∧ ∀ i, i < n → u.2 0 i = f (a + i) ∧ u.2 1 i = g (a + i) ∧ u.2 2 i = h (a + i)
theorem eisStreamN {i : Nat} (h : i < 2147483648) : fisStreamN i = some (if i < 3 then 1 else 0) := by
  by_cases h3 : i < 3
  · simp (disch := omega) only [ite_true, ite_false, not_true_eq_false, not_false_eq_true, fisStreamN, ss_p, if_pos, if_neg]
  · simp (disch := omega) only [ite_true, ite_false, not_true_eq_false, not_false_eq_true, fisStreamN, ss_p, if_pos, if_neg]
theorem eisPacketIndexN {i : Nat} (h : i < 2147483648) : fisPacketIndexN i = some (if i < 16 then 1 else 0) := by
  by_cases h3 : i < 16
  · simp (disch := omega) only [ite_true, ite_false, not_true_eq_false, not_false_eq_true, fisPacketIndexN, ss_p, if_pos, if_neg]
  · simp (disch := omega) only [ite_true, ite_false, not_true_eq_false, not_false_eq_true, fisPacketIndexN, ss_p, if_pos, if_neg]
theorem eU_isFull {u : ST} (h : u.1 3 < 2147483648) : fU_isFull u = some (if u.1 3 < 8 then 0 else 1) := by
  by_cases h3 : u.1 3 < 8
  · simp (disch := omega) only [ite_true, ite_false, not_true_eq_false, not_false_eq_true, fU_isFull, ss_p, if_pos, if_neg]
  · simp (disch := omega) only [ite_true, ite_false, not_true_eq_false, not_false_eq_true, fU_isFull, ss_p, if_pos, if_neg]
theorem eU_isEmpty {u : ST} (h : u.1 3 < 2147483648) : fU_isEmpty u = some (if u.1 3 = 0 then 1 else 0) := by
  by_cases h3 : u.1 3 = 0
  · simp (disch := omega) only [ite_true, ite_false, not_true_eq_false, not_false_eq_true, fU_isEmpty, ss_p, if_pos, if_neg]
  · simp (disch := omega) only [ite_true, ite_false, not_true_eq_false, not_false_eq_true, fU_isEmpty, ss_p, if_pos, if_neg]
theorem eU_append {u : ST} {x y z : Nat} (h : u.1 3 < 8) : fU_append u x y z = some (sA (sA (sA (sI u 3 (u.1 3 + 1)) 0 (va_up (u.2 0) (u.1 3) x)) 1 (va_up (u.2 1) (u.1 3) y)) 2 (va_up (u.2 2) (u.1 3) z)) := by
  have e := eU_isFull (u := u) (by omega)
  rw [if_pos h] at e
  simp (disch := omega) only [ite_true, ite_false, not_true_eq_false, not_false_eq_true, fU_append, e, ob_some, ss_p, if_pos]
theorem eU_isFirstDueAt {u : ST} {t : Nat} (h : u.1 3 < 2147483648) (h2 : u.2 1 0 < 2147483648) (ht : t < 2147483648) : fU_isFirstDueAt u t = some (if u.1 3 ≠ 0 ∧ u.2 1 0 = t then 1 else 0) := by
  by_cases h3 : u.1 3 = 0
  · have e := eU_isEmpty (u := u) h
    rw [if_pos h3] at e
    simp (disch := omega) only [ite_true, ite_false, not_true_eq_false, not_false_eq_true, fU_isFirstDueAt, e, ob_some, ss_p, if_pos, if_neg]
  · have e := eU_isEmpty (u := u) h
    rw [if_neg h3] at e
    by_cases h4 : u.2 1 0 = t
    · simp (disch := omega) only [ite_true, ite_false, not_true_eq_false, not_false_eq_true, fU_isFirstDueAt, e, ob_some, ss_p, if_pos, if_neg]
    · simp (disch := omega) only [ite_true, ite_false, not_true_eq_false, not_false_eq_true, fU_isFirstDueAt, e, ob_some, ss_p, if_pos, if_neg]
def shl (f : Nat → Nat) (i : Nat) : Nat → Nat := fun k => if k < i then f (k + 1) else f k
theorem shl_0 (f : Nat → Nat) : shl f 0 = f := by funext k; unfold shl; exact if_neg (by omega)
theorem shl_s (f : Nat → Nat) (i : Nat) : va_up (shl f i) i (shl f i (i + 1)) = shl f (i + 1) := by
  funext k
  unfold shl
  by_cases h : k = i
  · subst h
    rw [up_s, if_neg (by omega), if_pos (by omega)]
  · rw [up_n _ _ h]
    by_cases h2 : k < i
    · rw [if_pos h2, if_pos (by omega)]
    · rw [if_neg h2, if_neg (by omega)]
theorem eU_drop_L (a b d : Nat → Nat) (n : Nat) (hn : n ≤ 7) : ∀ (fu i : Nat) (u : ST), u.1 3 = n → i ≤ n → n - i < fu → u.2 0 = shl a i → u.2 1 = shl b i → u.2 2 = shl d i →
    ∃ u' : ST, fU_dropFirst_L20 fu i u = some (n, u') ∧ u'.1 = u.1 ∧ u'.2 0 = shl a n ∧ u'.2 1 = shl b n ∧ u'.2 2 = shl d n := by
  intro fu
  induction fu with
  | zero => intro i u _ _ h; omega
  | succ fu ih =>
    intro i u hu hi hf h0 h1 h2
    by_cases hc : i = n
    · subst hc
      refine ⟨u, ?_, rfl, h0, h1, h2⟩
      rw [fU_dropFirst_L20]
      simp (disch := omega) only [ite_true, ite_false, not_true_eq_false, not_false_eq_true, ss_p, if_pos]
    · obtain ⟨u', e1, e2, e3, e4, e5⟩ := ih (i + 1) (sA (sA (sA u 0 (va_up (u.2 0) i (u.2 0 (i + 1)))) 1 (va_up (u.2 1) i (u.2 1 (i + 1)))) 2 (va_up (u.2 2) i (u.2 2 (i + 1)))) hu (by omega) (by omega)
        (by show va_up (u.2 0) i (u.2 0 (i + 1)) = _; rw [h0, shl_s]) (by show va_up (u.2 1) i (u.2 1 (i + 1)) = _; rw [h1, shl_s]) (by show va_up (u.2 2) i (u.2 2 (i + 1)) = _; rw [h2, shl_s])
      refine ⟨u', ?_, e2, e3, e4, e5⟩
      rw [fU_dropFirst_L20]
      simp (disch := omega) only [ite_true, ite_false, not_true_eq_false, not_false_eq_true, ss_p, if_neg]
      exact e1
theorem eU_drop {u : ST} {f g h : Nat → Nat} {a n : Nat} (hw : Win u f g h a (n + 1)) (hn : n ≤ 7) : ∃ u' : ST, fU_dropFirst u = some u' ∧ Win u' f g h (a + 1) n := by
  obtain ⟨hl, hi⟩ := hw
  have e := eU_isEmpty (u := u) (by omega)
  rw [if_neg (by omega)] at e
  obtain ⟨u', e1, e2, e3, e4, e5⟩ := eU_drop_L (u.2 0) (u.2 1) (u.2 2) n hn 100 0 (sI u 3 (u.1 3 - 1)) (by rw [sI_1, up_s]; omega) (by omega) (by omega) (shl_0 _).symm (shl_0 _).symm (shl_0 _).symm
  refine ⟨u', ?_, ?_, ?_⟩
  · simp (disch := omega) only [ite_true, ite_false, not_true_eq_false, not_false_eq_true, fU_dropFirst, e, ob_some, ss_p, if_pos, e1]
  · rw [e2, sI_1, up_s]; omega
  · intro i hi2
    have hk := hi (i + 1) (by omega)
    rw [e3, e4, e5]
    unfold shl
    rw [if_pos hi2, if_pos hi2, if_pos hi2, show a + 1 + i = a + (i + 1) by omega]
    exact hk
theorem eU_app {u : ST} {f g h f' g' h' : Nat → Nat} {a n x y z : Nat} (hw : Win u f g h a n) (hn : n < 8) (hf : ∀ i, i < n → f' (a + i) = f (a + i) ∧ g' (a + i) = g (a + i) ∧ h' (a + i) = h (a + i)) (hx : f' (a + n) = x) (hy : g' (a + n) = y) (hz : h' (a + n) = z) :
    ∃ u' : ST, fU_append u x y z = some u' ∧ Win u' f' g' h' a (n + 1) := by
  obtain ⟨hl, hi⟩ := hw
  refine ⟨_, eU_append (by omega), ?_, ?_⟩
  · show va_up u.1 3 (u.1 3 + 1) 3 = n + 1
    rw [up_s, hl]
  · intro i hi2
    show va_up (u.2 0) (u.1 3) x i = _ ∧ va_up (u.2 1) (u.1 3) y i = _ ∧ va_up (u.2 2) (u.1 3) z i = _
    rw [hl]
    by_cases hc : i = n
    · subst hc
      rw [up_s, up_s, up_s]
      exact ⟨hx.symm, hy.symm, hz.symm⟩
    · rw [up_n _ _ hc, up_n _ _ hc, up_n _ _ hc]
      obtain ⟨h1, h2, h3⟩ := hf i (by omega)
      rw [h1, h2, h3]
      exact hi i (by omega)
