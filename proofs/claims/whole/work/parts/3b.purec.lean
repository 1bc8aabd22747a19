theorem bits_h : ∀ h, h < 256 → ((h &&& 64 = 0 ↔ h / 64 % 2 = 0) ∧ (h &&& 128 = 0 ↔ h ≤ 127) ∧ h &&& 64 < 2147483648 ∧ h &&& 128 < 2147483648) := by decide +kernel
/-- a packet of stream s comes -/
theorem sim_tos {r c y k : ST} {s a h1 : Nat} (hr : RR r y) (hc : CRy c y s) (hs : s < 3) (ha : a = 2 ∨ a = 4) (hk : ∀ j, j < 16 → k.2 0 j = y.2 11 j) (hb : ∀ j, j < 16 → y.2 11 j ≤ 255) (hh : y.2 11 1 = h1) :
    ∃ (r' c' y1 y2 y' : ST) (a2 : Nat), fR_takeOfStream r c k a = some (r', c') ∧ fM_note y s (h1 % 16) = some y1 ∧ ((h1 ≤ 127 ∧ a2 = a ∧ y2 = y1) ∨ (127 < h1 ∧ fM_begin y1 s a = some (a2, y2))) ∧ fM_collect y2 s a2 = some y' ∧ RR r' y' ∧ CRy c' y' s ∧ Oth y y' s ∧ y'.1 = y.1 := by
  have hb1 := hb 1 (by omega)
  obtain ⟨hm1, hm2, hm3, hm4⟩ := bits_h h1 (by omega)
  have eb1 := eP_byteAt (k := k) (i := 1) (by omega)
  rw [hk 1 (by omega), hh] at eb1
  obtain ⟨gp, cn, r1, c1, y1, n1, n2, n3, n4, n5, n6, n7, n8⟩ := sim_note (i := h1 % 16) hr hc hs (Nat.mod_lt _ (by omega))
  have h11 := n7.2.1 11 (by omega)
  have hk1 : ∀ j, j < 16 → k.2 0 j = y1.2 11 j := fun j hj => by rw [h11]; exact hk j hj
  have hb11 : ∀ j, j < 16 → y1.2 11 j ≤ 255 := fun j hj => by rw [h11]; exact hb j hj
  -- from a state on: what is collected
  have rest : ∀ (r2 c2 y2 : ST) (a3 a2 : Nat), RR r2 y2 → CRy c2 y2 s → Oth y y2 s → y2.1 = y.1 → a3 ≤ 16 → a2 ≤ 16 → (y2.2 14 s = 1 → a2 = a3) → (y2.2 14 s = 0 ∨ y2.2 14 s = 1) →
      ∃ (r' c' y' : ST), ss ((c2.1 2) < 2147483648) ((if (c2.1 2) = 0 then (some (r2, c2) : Option (ST × ST)) else ob (fC_fill c2 k a3) (fun r24 => ss (r24.1 < 2147483648) ((if r24.1 = 0 then some (r2, r24.2) else ob (fR_finishUnit r2 r24.2) (fun r28 => some (r28.1, r28.2))))))) = some (r', c') ∧ fM_collect y2 s a2 = some y' ∧ RR r' y' ∧ CRy c' y' s ∧ Oth y y' s ∧ y'.1 = y.1 := by
    intro r2 c2 y2 a3 a2 q1 q2 q3 q4 q5 q5' q6 q7
    have h112 := q3.2.1 11 (by omega)
    have hk2 : ∀ j, j < 16 → k.2 0 j = y2.2 11 j := fun j hj => by rw [h112]; exact hk j hj
    have q2' := q2
    obtain ⟨⟨d0, d1, d2, -, -, -⟩, -, -⟩ := q2'
    rcases q7 with q7 | q7
    · refine ⟨r2, c2, y2, ?_, ?_, q1, q2, q3, q4⟩
      · rw [ss_p (by omega), if_pos (by omega)]
      · have e : ∃ i2, fM_collect_L2 s 100 a2 y2 = some (i2, y2) := by
          refine ⟨a2, ?_⟩
          rw [fM_collect_L2]
          by_cases h16 : 16 ≤ a2
          · simp (disch := omega) only [ite_true, ite_false, not_true_eq_false, not_false_eq_true, ss_p, if_pos]
          · simp (disch := omega) only [ite_true, ite_false, not_true_eq_false, not_false_eq_true, ss_p, if_neg, if_pos]
        obtain ⟨i2, e⟩ := e
        simp only [fM_collect, e, ob_some]
    · have q8 := q6 q7
      subst q8
      obtain ⟨i', c', e1, hcase⟩ := sim_fill_L k s hs 100 a2 c2 y2 q5 (by omega) q2 q7 hk2
      rcases hcase with ⟨p1, p2, i2, u', p3, p4, p5, p6, p7⟩ | ⟨p1, p2, u1, p3, p4, p5, p6, p7⟩
      · have ef : fC_fill c2 k a2 = some (0, c') := by
          simp (disch := omega) only [ite_true, ite_false, not_true_eq_false, not_false_eq_true, fC_fill, e1, ob_some, ss_p, if_pos]
        refine ⟨r2, c', u', ?_, by simp only [fM_collect, p3, ob_some], q1.keep (by rw [p5]) (by rw [p5]) p6, p4, q3.trans p7, p5.trans q4⟩
        rw [ss_p (by omega), if_neg (by omega), ef, ob_some, ss_p (by show 0 < 2147483648; omega), if_pos rfl]
      · have ef : fC_fill c2 k a2 = some (1, c') := by
          simp (disch := omega) only [ite_true, ite_false, not_true_eq_false, not_false_eq_true, fC_fill, e1, ob_some, ss_p, if_neg]
        obtain ⟨r', c'', z, f1, f2, f3, f4, f5, f6, f7⟩ := sim_finish (q1.keep (by rw [p4]) (by rw [p4]) p5) p3 hs
        obtain ⟨i2, p8⟩ := p7 z f2 f3
        refine ⟨r', c'', z, ?_, by simp only [fM_collect, p8, ob_some], f4, f5, (q3.trans p6).trans f6, (f7.trans p4).trans q4⟩
        rw [ss_p (by omega), if_neg (by omega), ef, ob_some, ss_p (by show 1 < 2147483648; omega), if_neg (by show ¬ (1 : Nat) = 0; omega), f1, ob_some]
  by_cases hst : h1 ≤ 127
  · have h128 : h1 &&& 128 = 0 := hm2.mpr hst
    have hcl : y1.2 14 s = 0 ∨ y1.2 14 s = 1 := by obtain ⟨⟨-, -, -, -, -, z9⟩, -, -⟩ := n6; omega
    obtain ⟨r', c', y', t1, t2, t3, t4, t5, t6⟩ := rest r1 c1 y1 a a n5 n6 n7 n8 (by omega) (by omega) (fun _ => rfl) hcl
    refine ⟨r', c', y1, y1, y', a, ?_, n4, Or.inl ⟨hst, rfl, rfl⟩, t2, t3, t4, t5, t6⟩
    unfold fR_takeOfStream
    rw [eb1, ob_some, ss_p (by omega), n1, ob_some, ss_p n2, n3, ob_some, ss_p hm4, if_pos h128, ob_some]
    exact t1
  · have h128 : ¬ h1 &&& 128 = 0 := fun h9 => hst (hm2.mp h9)
    obtain ⟨rb, cb, r2, c2, y2, a2, s1, s2, s3, s4, s5, s6, s7, s8⟩ := sim_begin (a := a) n5 n6 hs (by omega) hk1 hb11
    obtain ⟨r', c', y', t1, t2, t3, t4, t5, t6⟩ := rest r2 c2 y2 (a + 3) a2 s4 s5 (n7.trans s6) (s7.trans n8) (by omega) (by omega) (fun h9 => by omega) (by omega)
    refine ⟨r', c', y1, y2, y', a2, ?_, n4, Or.inr ⟨by omega, s3⟩, t2, t3, t4, t5, t6⟩
    unfold fR_takeOfStream
    rw [eb1, ob_some, ss_p (by omega), n1, ob_some, ss_p n2, n3, ob_some, ss_p hm4, if_neg h128, s1, ob_some, s2, ob_some, ob_some]
    exact t1
theorem eM_hear_L (pl bits : Nat) (hp : pl < 16) : ∀ (fu i : Nat) (u : ST), i ≤ 16 → 16 - i < fu → (∀ p, p < i → u.2 11 p = if p = pl then u.2 10 p ^^^ bits else u.2 10 p) →
    ∃ u' : ST, fM_hear_L2 pl bits fu i u = some (16, u') ∧ u'.1 = u.1 ∧ (∀ j, j ≠ 11 → u'.2 j = u.2 j) ∧ ∀ p, p < 16 → u'.2 11 p = if p = pl then u.2 10 p ^^^ bits else u.2 10 p := by
  intro fu
  induction fu with
  | zero => intro i u _ h; omega
  | succ fu ih =>
    intro i u hi hf h
    rw [fM_hear_L2]
    by_cases hc : i = 16
    · subst hc
      refine ⟨u, ?_, rfl, fun _ _ => rfl, h⟩
      simp (disch := omega) only [ite_true, ite_false, not_true_eq_false, not_false_eq_true, ss_p, if_pos]
    · obtain ⟨u', e1, e2, e3, e4⟩ := ih (i + 1) (sA u 11 (va_up (u.2 11) i (if i = pl then u.2 10 i ^^^ bits else u.2 10 i))) (by omega) (by omega) (by
        intro p hp2
        simp (disch := omega) only [ite_true, ite_false, not_true_eq_false, not_false_eq_true, sA_2, up_s, up_n]
        by_cases h2 : p = i
        · subst h2; rw [up_s]
        · rw [up_n _ _ h2]; exact h p (by omega))
      refine ⟨u', ?_, e2, fun j hj => by rw [e3 j hj, sA_2, up_n _ _ hj], fun p hp2 => by rw [e4 p hp2]; simp (disch := omega) only [ite_true, ite_false, not_true_eq_false, not_false_eq_true, sA_2, up_n]⟩
      by_cases hpl : i = pl
      · rw [if_pos hpl] at e1
        simp (disch := omega) only [ite_true, ite_false, not_true_eq_false, not_false_eq_true, ss_p, if_neg, ob_some]
        exact e1
      · rw [if_neg hpl] at e1
        simp (disch := omega) only [ite_true, ite_false, not_true_eq_false, not_false_eq_true, ss_p, if_neg, if_pos, ob_some]
        exact e1
/-- the receiving side of class and reference -/
def RI (r c0 c1 c2 y : ST) : Prop := RR r y ∧ CRy c0 y 0 ∧ CRy c1 y 1 ∧ CRy c2 y 2
