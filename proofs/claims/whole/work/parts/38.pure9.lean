/-- what of the reference a receiver's step leaves alone: all but the receiver's own rows; of those only stream s, the counts, and (for the row of bytes) its own sixty places -/
def Oth (y y' : ST) (s : Nat) : Prop :=
  (∀ k, k ≠ 16 → k ≠ 17 → y'.1 k = y.1 k) ∧ (∀ j, j < 12 → y'.2 j = y.2 j) ∧
  (∀ j k, k ≠ s → j = 12 ∨ j = 13 ∨ j = 14 ∨ j = 15 ∨ j = 16 ∨ j = 17 ∨ j = 20 ∨ j = 21 ∨ j = 22 → y'.2 j k = y.2 j k) ∧
  (∀ p, (p < 60 * s ∨ 60 * s + 60 ≤ p) → y'.2 18 p = y.2 18 p ∧ y'.2 19 p = y.2 19 p)
theorem Oth.refl (y : ST) (s : Nat) : Oth y y s := ⟨fun _ _ _ => rfl, fun _ _ => rfl, fun _ _ _ _ => rfl, fun _ _ => ⟨rfl, rfl⟩⟩
theorem Oth.trans {y y' y'' : ST} {s : Nat} (h : Oth y y' s) (h' : Oth y' y'' s) : Oth y y'' s := by
  obtain ⟨a1, a2, a3, a4⟩ := h
  obtain ⟨b1, b2, b3, b4⟩ := h'
  exact ⟨fun k h1 h2 => (b1 k h1 h2).trans (a1 k h1 h2), fun j hj => (b2 j hj).trans (a2 j hj), fun j k h1 h2 => (b3 j k h1 h2).trans (a3 j k h1 h2), fun p hp => ⟨(b4 p hp).1.trans (a4 p hp).1, (b4 p hp).2.trans (a4 p hp).2⟩⟩
theorem CRy.oth {c y y' : ST} {s s' : Nat} (h : CRy c y s') (ho : Oth y y' s) (hs : s' ≠ s) : CRy c y' s' := by
  obtain ⟨a1, a2, a3, a4⟩ := ho
  unfold CRy at h ⊢
  rw [a3 12 s' hs (by omega), a3 13 s' hs (by omega), a3 14 s' hs (by omega), a3 15 s' hs (by omega), a3 16 s' hs (by omega), a3 17 s' hs (by omega), a3 22 s' hs (by omega), a3 20 s' hs (by omega), a3 21 s' hs (by omega)]
  obtain ⟨h1, h2, h3, h4⟩ := h
  refine ⟨h1, fun h9 => ?_, h3, fun h9 => ?_⟩
  · obtain ⟨b1, b2⟩ := h2 h9
    refine ⟨b1, fun j hj => ?_⟩
    rw [(a4 (60 * s' + j) (by omega)).1]
    exact b2 j hj
  · obtain ⟨b1, b2⟩ := h4 h9
    refine ⟨b1, fun j hj => ?_⟩
    rw [(a4 (60 * s' + j) (by omega)).2]
    exact b2 j hj
theorem tal_up {a b : Nat → Nat} {p : Nat} (h : ∀ k, k < 6 → a k = b k) (hp : p < 6) : ∀ k, k < 6 → va_up a p (a p + 1) k = va_up b p (b p + 1) k := by
  intro k hk
  by_cases hc : k = p
  · subst hc; rw [up_s, up_s, h k hk]
  · rw [up_n _ _ hc, up_n _ _ hc]; exact h k hk
theorem up_id {α : Type} (b : Nat → α) (p : Nat) : va_up b p (b p) = b := by
  funext k
  by_cases hc : k = p
  · subst hc; exact up_s _ _ _
  · exact up_n _ _ hc
/-- the class breaks a unit off, and the reference: in numbers -/
theorem brkC {r c : ST} (h : c.1 2 ≤ 1) : fR_breakUnit r c = some (if c.1 2 = 0 then (r, c) else (sA r 0 (va_up (r.2 0) 2 (r.2 0 2 + 1)), sI c 2 0)) := by
  by_cases h0 : c.1 2 = 0
  · simp (disch := omega) only [ite_true, ite_false, not_true_eq_false, not_false_eq_true, fR_breakUnit, ss_p, if_pos]
  · simp (disch := omega) only [ite_true, ite_false, not_true_eq_false, not_false_eq_true, fR_breakUnit, ss_p, if_neg]
theorem brkM {y : ST} {s : Nat} (hs : s < 3) (h : y.2 14 s ≤ 1) : fM_goBroken y s = some (sA (sA y 14 (va_up (y.2 14) s 0)) 23 (va_up (y.2 23) 2 (if y.2 14 s = 0 then y.2 23 2 else y.2 23 2 + 1))) := by
  by_cases h0 : y.2 14 s = 0
  · simp (disch := omega) only [ite_true, ite_false, not_true_eq_false, not_false_eq_true, fM_goBroken, ss_p, if_pos, ob_some]
  · simp (disch := omega) only [ite_true, ite_false, not_true_eq_false, not_false_eq_true, fM_goBroken, ss_p, if_neg, ob_some]
theorem sim_note {r c y : ST} {s i : Nat} (hr : RR r y) (hc : CRy c y s) (hs : s < 3) (hi : i < 16) :
    ∃ (b : Nat) (c1 r' c' y' : ST), fC_noteCounter c i = some (b, c1) ∧ b < 2147483648 ∧ (if b = 0 then (some (r, c1) : Option (ST × ST)) else ob (fR_breakUnit (sA r 0 (va_up (r.2 0) 1 (r.2 0 1 + 1))) c1) (fun z => (some (z.1, z.2) : Option (ST × ST)))) = some (r', c') ∧
      fM_note y s i = some y' ∧ RR r' y' ∧ CRy c' y' s ∧ Oth y y' s ∧ y'.1 = y.1 := by
  obtain ⟨⟨c0, c1, c2, l0, l1, l2⟩, hcl, hlast⟩ := hc
  obtain ⟨r1, r2, r3, r4, r5, r6⟩ := hr
  by_cases hgap : y.2 12 s = 1 ∧ ¬ i = (y.2 13 s + 1) % 16
  · obtain ⟨hg1, hg2⟩ := hgap
    have eC : fC_noteCounter c i = some (1, sI (sI c 0 1) 1 i) := by
      simp (disch := omega) only [ite_true, ite_false, not_true_eq_false, not_false_eq_true, fC_noteCounter, ss_p, if_neg, ob_some]
    have eB := brkC (r := sA r 0 (va_up (r.2 0) 1 (r.2 0 1 + 1))) (c := sI (sI c 0 1) 1 i) (by simp (disch := omega) only [ite_true, ite_false, not_true_eq_false, not_false_eq_true, sI_1, up_n]; omega)
    have eM := brkM (y := sA y 23 (va_up (y.2 23) 1 (y.2 23 1 + 1))) hs (by simp (disch := omega) only [ite_true, ite_false, not_true_eq_false, not_false_eq_true, sA_2, up_n]; omega)
    have eN : ∀ z : ST, fM_goBroken (sA y 23 (va_up (y.2 23) 1 (y.2 23 1 + 1))) s = some z → fM_note y s i = some (sA (sA z 12 (va_up (z.2 12) s 1)) 13 (va_up (z.2 13) s i)) := by
      intro z hz
      simp (disch := omega) only [ite_true, ite_false, not_true_eq_false, not_false_eq_true, fM_note, ss_p, if_neg, ob_some, lt_def, hz]
    by_cases h0 : y.2 14 s = 0
    · refine ⟨1, _, _, _, _, eC, by omega, by rw [if_neg (by omega), eB, ob_some, if_pos (by simp (disch := omega) only [ite_true, ite_false, not_true_eq_false, not_false_eq_true, sI_1, up_n]; omega)], eN _ eM, ?_, ?_, ?_, rfl⟩
      · refine ⟨r1, r2, r3, r4, r5, fun k hk => ?_⟩
        simp (disch := omega) only [ite_true, ite_false, not_true_eq_false, not_false_eq_true, sA_2, up_s, up_n, if_pos]
        have t1 := tal_up (p := 1) r6 (by omega) k hk
        by_cases hk2 : k = 2
        · subst hk2
          rw [up_s, up_n _ _ (by omega)]; exact r6 2 hk
        · rw [t1, up_n (va_up (y.2 23) 1 (y.2 23 1 + 1)) _ hk2]
      · unfold CRy
        simp (disch := omega) only [ite_true, ite_false, not_true_eq_false, not_false_eq_true, sA_2, up_s, up_n]
        refine ⟨⟨by simp (disch := omega) only [ite_true, ite_false, not_true_eq_false, not_false_eq_true, sI_1, up_s, up_n], by simp (disch := omega) only [ite_true, ite_false, not_true_eq_false, not_false_eq_true, sI_1, up_s, up_n], by simp (disch := omega) only [ite_true, ite_false, not_true_eq_false, not_false_eq_true, sI_1, up_s, up_n]; omega, by omega, hi, by omega⟩, fun h9 => by omega, ?_⟩
        simp (disch := omega) only [ite_true, ite_false, not_true_eq_false, not_false_eq_true, sI_1, sI_2, up_s, up_n]; exact hlast
      · refine ⟨fun _ _ _ => rfl, fun j hj => by simp (disch := omega) only [ite_true, ite_false, not_true_eq_false, not_false_eq_true, sA_2, up_n], fun j k hk hj => ?_, fun p hp => ⟨by simp (disch := omega) only [ite_true, ite_false, not_true_eq_false, not_false_eq_true, sA_2, up_n], by simp (disch := omega) only [ite_true, ite_false, not_true_eq_false, not_false_eq_true, sA_2, up_n]⟩⟩
        rcases hj with h | h | h | h | h | h | h | h | h <;> subst h <;> simp (disch := omega) only [ite_true, ite_false, not_true_eq_false, not_false_eq_true, sA_2, up_s, up_n]
    · refine ⟨1, _, _, _, _, eC, by omega, by rw [if_neg (by omega), eB, ob_some, if_neg (by simp (disch := omega) only [ite_true, ite_false, not_true_eq_false, not_false_eq_true, sI_1, up_n]; omega)], eN _ eM, ?_, ?_, ?_, rfl⟩
      · refine ⟨r1, r2, r3, r4, r5, fun k hk => ?_⟩
        simp (disch := omega) only [ite_true, ite_false, not_true_eq_false, not_false_eq_true, sA_2, up_s, up_n, if_neg]
        exact tal_up (tal_up r6 (by omega)) (by omega) k hk
      · unfold CRy
        simp (disch := omega) only [ite_true, ite_false, not_true_eq_false, not_false_eq_true, sA_2, up_s, up_n]
        refine ⟨⟨by simp (disch := omega) only [ite_true, ite_false, not_true_eq_false, not_false_eq_true, sI_1, up_s, up_n], by simp (disch := omega) only [ite_true, ite_false, not_true_eq_false, not_false_eq_true, sI_1, up_s, up_n], by simp (disch := omega) only [ite_true, ite_false, not_true_eq_false, not_false_eq_true, sI_1, up_s, up_n], by omega, hi, by omega⟩, fun h9 => by omega, ?_⟩
        simp (disch := omega) only [ite_true, ite_false, not_true_eq_false, not_false_eq_true, sI_1, sI_2, up_s, up_n]; exact hlast
      · refine ⟨fun _ _ _ => rfl, fun j hj => by simp (disch := omega) only [ite_true, ite_false, not_true_eq_false, not_false_eq_true, sA_2, up_n], fun j k hk hj => ?_, fun p hp => ⟨by simp (disch := omega) only [ite_true, ite_false, not_true_eq_false, not_false_eq_true, sA_2, up_n], by simp (disch := omega) only [ite_true, ite_false, not_true_eq_false, not_false_eq_true, sA_2, up_n]⟩⟩
        rcases hj with h | h | h | h | h | h | h | h | h <;> subst h <;> simp (disch := omega) only [ite_true, ite_false, not_true_eq_false, not_false_eq_true, sA_2, up_s, up_n]
  · have eC : fC_noteCounter c i = some (0, sI (sI c 0 1) 1 i) := by
      by_cases h0 : y.2 12 s = 0
      · simp (disch := omega) only [ite_true, ite_false, not_true_eq_false, not_false_eq_true, fC_noteCounter, ss_p, if_pos, ob_some]
      · have h1 : i = (y.2 13 s + 1) % 16 := by omega
        simp (disch := omega) only [ite_true, ite_false, not_true_eq_false, not_false_eq_true, fC_noteCounter, ss_p, if_pos, if_neg, ob_some]
    have eN : fM_note y s i = some (sA (sA y 12 (va_up (y.2 12) s 1)) 13 (va_up (y.2 13) s i)) := by
      by_cases h0 : y.2 12 s = 0
      · simp (disch := omega) only [ite_true, ite_false, not_true_eq_false, not_false_eq_true, fM_note, ss_p, if_pos, ob_some]
      · have h1 : i = (y.2 13 s + 1) % 16 := by omega
        simp (disch := omega) only [ite_true, ite_false, not_true_eq_false, not_false_eq_true, fM_note, ss_p, if_pos, if_neg, ob_some]
    refine ⟨0, _, r, sI (sI c 0 1) 1 i, _, eC, by omega, if_pos rfl, eN, ⟨r1, r2, r3, r4, r5, fun k hk => ?_⟩, ?_, ?_, rfl⟩
    · simp (disch := omega) only [ite_true, ite_false, not_true_eq_false, not_false_eq_true, sA_2, up_n]; exact r6 k hk
    · unfold CRy
      simp (disch := omega) only [ite_true, ite_false, not_true_eq_false, not_false_eq_true, sA_2, up_s, up_n]
      refine ⟨⟨by simp (disch := omega) only [ite_true, ite_false, not_true_eq_false, not_false_eq_true, sI_1, up_s, up_n], by simp (disch := omega) only [ite_true, ite_false, not_true_eq_false, not_false_eq_true, sI_1, up_s, up_n], by simp (disch := omega) only [ite_true, ite_false, not_true_eq_false, not_false_eq_true, sI_1, up_s, up_n]; omega, by omega, hi, by omega⟩, ?_, ?_⟩
      · simp (disch := omega) only [ite_true, ite_false, not_true_eq_false, not_false_eq_true, sI_1, sI_2, up_s, up_n]; exact hcl
      · simp (disch := omega) only [ite_true, ite_false, not_true_eq_false, not_false_eq_true, sI_1, sI_2, up_s, up_n]; exact hlast
    · refine ⟨fun _ _ _ => rfl, fun j hj => by simp (disch := omega) only [ite_true, ite_false, not_true_eq_false, not_false_eq_true, sA_2, up_n], fun j k hk hj => ?_, fun p hp => ⟨by simp (disch := omega) only [ite_true, ite_false, not_true_eq_false, not_false_eq_true, sA_2, up_n], by simp (disch := omega) only [ite_true, ite_false, not_true_eq_false, not_false_eq_true, sA_2, up_n]⟩⟩
      rcases hj with h | h | h | h | h | h | h | h | h <;> subst h <;> simp (disch := omega) only [ite_true, ite_false, not_true_eq_false, not_false_eq_true, sA_2, up_s, up_n]
