/-- how many bytes a packet takes at time tm of a unit of which S are sent and 'left' are left -/
def tk (tm S left : Nat) : Nat := min (14 - (if tm % 8 = 0 then 2 else 0) - (if S = 0 then 3 else 0)) left
theorem tk_le (tm S left : Nat) : tk tm S left ≤ left := Nat.min_le_right _ _
theorem tk_room (tm S left : Nat) : tk tm S left + (if tm % 8 = 0 then 2 else 0) + (if S = 0 then 3 else 0) ≤ 14 := by
  have h := Nat.min_le_left (14 - (if tm % 8 = 0 then 2 else 0) - (if S = 0 then 3 else 0)) left
  have e : tk tm S left = min (14 - (if tm % 8 = 0 then 2 else 0) - (if S = 0 then 3 else 0)) left := rfl
  split <;> split <;> simp_all <;> omega
theorem tk_pos (tm S left : Nat) (h : 0 < left) : 0 < tk tm S left := by
  unfold tk
  split <;> split <;> omega
theorem eS_isAtStart {v : ST} (h : v.1 2 < 2147483648) : fS_isAtStart v = some (if v.1 2 = 0 then 1 else 0) := by
  by_cases h3 : v.1 2 = 0
  · simp (disch := omega) only [ite_true, ite_false, not_true_eq_false, not_false_eq_true, fS_isAtStart, ss_p, if_pos, if_neg]
  · simp (disch := omega) only [ite_true, ite_false, not_true_eq_false, not_false_eq_true, fS_isAtStart, ss_p, if_pos, if_neg]
theorem eS_portion {v u : ST} {tm b : Nat} (hb : b = if tm % 8 = 0 then 1 else 0) (h1 : v.1 2 ≤ u.2 0 0) (h2 : u.2 0 0 < 2147483648) : fS_portion v u b = some (tk tm (v.1 2) (u.2 0 0 - v.1 2)) := by
  have e := eS_isAtStart (v := v) (by omega)
  unfold tk
  by_cases h8 : tm % 8 = 0
  · rw [if_pos h8] at hb ⊢
    subst hb
    by_cases h0 : v.1 2 = 0
    · rw [if_pos h0] at e ⊢
      simp (disch := omega) only [ite_true, ite_false, not_true_eq_false, not_false_eq_true, fS_portion, ss_p, if_pos, if_neg, ob_some, e, fU_firstSize]
    · rw [if_neg h0] at e ⊢
      simp (disch := omega) only [ite_true, ite_false, not_true_eq_false, not_false_eq_true, fS_portion, ss_p, if_pos, if_neg, ob_some, e, fU_firstSize]
  · rw [if_neg h8] at hb ⊢
    subst hb
    by_cases h0 : v.1 2 = 0
    · rw [if_pos h0] at e ⊢
      simp (disch := omega) only [ite_true, ite_false, not_true_eq_false, not_false_eq_true, fS_portion, ss_p, if_pos, if_neg, ob_some, e, fU_firstSize]
    · rw [if_neg h0] at e ⊢
      simp (disch := omega) only [ite_true, ite_false, not_true_eq_false, not_false_eq_true, fS_portion, ss_p, if_pos, if_neg, ob_some, e, fU_firstSize]
/-- may a stream send now -/
def rd (tm A L C S lo hi left cap : Nat) : Nat := if C < A ∧ (0 < S ∨ C - L < 8) ∧ lo + tk tm S left ≤ 28 ∧ hi + tk tm S left ≤ cap then 1 else 0
theorem eS_ready {v q t : ST} {f g h : Nat → Nat} {t2 tm o A L C S lo nx la b cap : Nat} (hR : SR v q t f g h t2 o A L C S lo nx la) (hb : b = if tm % 8 = 0 then 1 else 0) (hc : cap ≤ 200) :
    fS_isReady v q t b cap = some (rd tm A L C S lo (S + sm f (o + L) (C - L)) (f (o + C) - S) cap) := by
  obtain ⟨⟨wq, wt⟩, ⟨e2, e3, e4, e5, e6, e7⟩, ⟨i1, i2, i3, i4, i5⟩, hu, hm, hd, ⟨s1, s2, s3, s4, s5, s6⟩⟩ := hR
  have hsum : sm f (o + L) (C - L) ≤ (C - L) * 60 := sm_le f 60 (C - L) (o + L) (fun i hi => by rw [show o + L + i = o + (L + i) by omega]; exact (hu (L + i) (by omega)).2.1)
  have ee := eU_isEmpty (u := q) (by rw [wq.1]; omega)
  rw [wq.1] at ee
  unfold rd
  by_cases hA : C = A
  · rw [if_pos (by omega)] at ee
    rw [if_neg (by rintro ⟨h9, -⟩; omega)]
    simp (disch := omega) only [ite_true, ite_false, not_true_eq_false, not_false_eq_true, fS_isReady, ee, ob_some, ss_p, if_pos]
  · rw [if_neg (by omega)] at ee
    have qf : q.2 0 0 = f (o + C) := by rw [(wq.2 0 (by omega)).1, Nat.add_zero]
    have hf := hu C (by omega)
    have hS := s1 (by omega)
    have ep := eS_portion (v := v) (u := q) hb (by omega) (by omega)
    rw [e2, qf] at ep
    have htk := tk_le tm S (f (o + C) - S)
    generalize tk tm S (f (o + C) - S) = n at ep htk ⊢
    have ea := eS_isAtStart (v := v) (by omega)
    rw [e2] at ea
    have ef := eU_isFull (u := t) (by rw [wt.1]; omega)
    rw [wt.1] at ef
    by_cases h0 : S = 0
    · rw [if_pos h0] at ea
      by_cases h8 : C - L < 8
      · rw [if_pos h8] at ef
        by_cases h28 : lo + n ≤ 28
        · by_cases hcp : S + sm f (o + L) (C - L) + n ≤ cap
          · rw [if_pos ⟨by omega, Or.inr h8, h28, hcp⟩]
            simp (disch := omega) only [ite_true, ite_false, not_true_eq_false, not_false_eq_true, fS_isReady, ee, ea, ef, ep, ob_some, ss_p, if_pos, if_neg, e3, e4]
          · rw [if_neg (by rintro ⟨-, -, -, h9⟩; omega)]
            simp (disch := omega) only [ite_true, ite_false, not_true_eq_false, not_false_eq_true, fS_isReady, ee, ea, ef, ep, ob_some, ss_p, if_pos, if_neg, e3, e4]
        · rw [if_neg (by rintro ⟨-, -, h9, -⟩; omega)]
          simp (disch := omega) only [ite_true, ite_false, not_true_eq_false, not_false_eq_true, fS_isReady, ee, ea, ef, ep, ob_some, ss_p, if_pos, if_neg, e3, e4]
      · rw [if_neg h8] at ef
        rw [if_neg (by rintro ⟨-, h9, -⟩; omega)]
        simp (disch := omega) only [ite_true, ite_false, not_true_eq_false, not_false_eq_true, fS_isReady, ee, ea, ef, ep, ob_some, ss_p, if_pos, if_neg, e3, e4]
    · rw [if_neg h0] at ea
      by_cases h28 : lo + n ≤ 28
      · by_cases hcp : S + sm f (o + L) (C - L) + n ≤ cap
        · rw [if_pos ⟨by omega, Or.inl (by omega), h28, hcp⟩]
          simp (disch := omega) only [ite_true, ite_false, not_true_eq_false, not_false_eq_true, fS_isReady, ee, ea, ef, ep, ob_some, ss_p, if_pos, if_neg, e3, e4]
        · rw [if_neg (by rintro ⟨-, -, -, h9⟩; omega)]
          simp (disch := omega) only [ite_true, ite_false, not_true_eq_false, not_false_eq_true, fS_isReady, ee, ea, ef, ep, ob_some, ss_p, if_pos, if_neg, e3, e4]
      · rw [if_neg (by rintro ⟨-, -, h9, -⟩; omega)]
        simp (disch := omega) only [ite_true, ite_false, not_true_eq_false, not_false_eq_true, fS_isReady, ee, ea, ef, ep, ob_some, ss_p, if_pos, if_neg, e3, e4]
theorem eM_high_L (y : ST) (s : Nat) (hs : s < 3) (C : Nat) (hC : y.2 6 s = C) (hC2 : C ≤ 512) : ∀ (fu a k : Nat), k ≤ C → C - k < fu → fM_high_L33 y s fu a k = some (a + sm (y.2 1) (512 * s + k) (C - k), C) := by
  intro fu
  induction fu with
  | zero => intro a k _ h; omega
  | succ fu ih =>
    intro a k hk hf
    rw [fM_high_L33, hC]
    by_cases hc : k = C
    · subst hc
      simp (disch := omega) only [ite_true, ite_false, not_true_eq_false, not_false_eq_true, ss_p, if_pos]
      rw [Nat.sub_self]; rfl
    · simp (disch := omega) only [ite_true, ite_false, not_true_eq_false, not_false_eq_true, ss_p, if_neg]
      rw [ih (a + y.2 1 (512 * s + k)) (k + 1) (by omega) (by omega)]
      have e : sm (y.2 1) (512 * s + k) (C - k) = y.2 1 (512 * s + k) + sm (y.2 1) (512 * s + k + 1) (C - k - 1) := by
        rw [show C - k = (C - k - 1) + 1 by omega]; rfl
      rw [e, show 512 * s + (k + 1) = 512 * s + k + 1 by omega, show C - (k + 1) = C - k - 1 by omega, Nat.add_assoc]
