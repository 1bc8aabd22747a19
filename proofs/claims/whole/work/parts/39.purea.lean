theorem ewithin (v a b : Int32) : fwithin v a b = some (if v < a ∨ b < v then 0 else 1) := by
  unfold fwithin
  by_cases h1 : v < a
  · rw [if_pos h1, if_pos (Or.inl h1)]
  · by_cases h2 : b < v
    · rw [if_neg h1, if_pos h2, if_pos (Or.inr h2)]
    · rw [if_neg h1, if_neg h2, if_neg (fun h => h.elim h1 h2)]
theorem ewithinN {v a b : Nat} (hv : v < 2147483648) (ha : a < 2147483648) (hb : b < 2147483648) : fwithin (nI v) (nI a) (nI b) = some (if a ≤ v ∧ v ≤ b then 1 else 0) := by
  rw [ewithin]
  by_cases h : a ≤ v ∧ v ≤ b
  · rw [if_pos h, if_neg (fun h9 => h9.elim (fun h8 => by have := (nI_ltI hv ha).mp h8; omega) (fun h8 => by have := (nI_ltI hb hv).mp h8; omega))]
  · rw [if_neg h]
    by_cases h2 : v < a
    · rw [if_pos (Or.inl ((nI_ltI hv ha).mpr h2))]
    · rw [if_pos (Or.inr ((nI_ltI hb hv).mpr (by omega)))]
/-- a unit is whole: what class and reference hold of it then -/
def FinU (c u : ST) (s : Nat) : Prop :=
  (c.1 0 = u.2 12 s ∧ c.1 1 = u.2 13 s ∧ u.2 12 s ≤ 1 ∧ u.2 13 s < 16) ∧
  (c.1 3 = u.2 16 s ∧ c.1 4 = u.2 17 s ∧ 1 ≤ u.2 16 s ∧ u.2 16 s ≤ 60 ∧ u.2 17 s < 65536 ∧ ∀ j, j < u.2 16 s → c.2 0 j = u.2 18 (60 * s + j)) ∧
  c.1 10 = u.2 22 s
theorem sim_fill_L (k : ST) (s : Nat) (hs : s < 3) : ∀ (fu i : Nat) (c u : ST), i ≤ 16 → 16 - i < fu → CRy c u s → u.2 14 s = 1 → (∀ j, j < 16 → k.2 0 j = u.2 11 j) →
    ∃ (i' : Nat) (c' : ST), fC_fill_L2 k fu i c = some (i', c') ∧
      ((c'.1 5 < c'.1 3 ∧ c'.1 3 ≤ 60 ∧ ∃ (i2 : Nat) (u' : ST), fM_collect_L2 s fu i u = some (i2, u') ∧ CRy c' u' s ∧ u'.1 = u.1 ∧ u'.2 23 = u.2 23 ∧ Oth u u' s) ∨
       (c'.1 5 = c'.1 3 ∧ c'.1 3 ≤ 60 ∧ ∃ u1 : ST, FinU c' u1 s ∧ u1.1 = u.1 ∧ u1.2 23 = u.2 23 ∧ Oth u u1 s ∧ ∀ z : ST, fM_arrive u1 s = some z → z.2 14 s = 0 → ∃ i2 : Nat, fM_collect_L2 s fu i u = some (i2, z))) := by
  intro fu
  induction fu with
  | zero => intro i c u _ h; omega
  | succ fu ih =>
    intro i c u hi hf hc h14 hk
    have hc0 := hc
    obtain ⟨⟨c0, c1, c2, l0, l1, l2⟩, hcl, hlast⟩ := hc
    obtain ⟨⟨w1, w2, w3, w4, w5, w6⟩, w7⟩ := hcl h14
    by_cases hi16 : i = 16
    · subst hi16
      refine ⟨16, c, ?_, Or.inl ⟨by omega, by omega, 16, u, ?_, hc0, rfl, rfl, Oth.refl u s⟩⟩
      · rw [fC_fill_L2]
        simp (disch := omega) only [ite_true, ite_false, not_true_eq_false, not_false_eq_true, ss_p, if_pos]
      · rw [fM_collect_L2]
        simp (disch := omega) only [ite_true, ite_false, not_true_eq_false, not_false_eq_true, ss_p, if_pos]
    · have eb := eP_byteAt (k := k) (i := i) (by omega)
      rw [hk i (by omega)] at eb
      have stepC : fC_fill_L2 k (fu + 1) i c = fC_fill_L2 k fu (i + 1) (sA (sI c 5 (c.1 5 + 1)) 0 (va_up (c.2 0) (c.1 5) (u.2 11 i))) := by
        rw [fC_fill_L2]
        simp (disch := omega) only [ite_true, ite_false, not_true_eq_false, not_false_eq_true, ss_p, if_neg, eb, ob_some]
      -- the reference's state with one byte more
      have oth1 : Oth u (sA (sA u 15 (va_up (u.2 15) s (u.2 15 s + 1))) 18 (va_up (u.2 18) (60 * s + u.2 15 s) (u.2 11 i))) s := by
        refine ⟨fun _ _ _ => rfl, fun j hj => by simp (disch := omega) only [ite_true, ite_false, not_true_eq_false, not_false_eq_true, sA_2, up_n], fun j k2 hk2 hj => ?_, fun p hp => ⟨by simp (disch := omega) only [ite_true, ite_false, not_true_eq_false, not_false_eq_true, sA_2, up_s, up_n], by simp (disch := omega) only [ite_true, ite_false, not_true_eq_false, not_false_eq_true, sA_2, up_n]⟩⟩
        rcases hj with h | h | h | h | h | h | h | h | h <;> subst h <;> simp (disch := omega) only [ite_true, ite_false, not_true_eq_false, not_false_eq_true, sA_2, up_s, up_n]
      have bytes1 : ∀ j, j < u.2 15 s + 1 → va_up (c.2 0) (c.1 5) (u.2 11 i) j = va_up (u.2 18) (60 * s + u.2 15 s) (u.2 11 i) (60 * s + j) := by
        intro j hj
        rw [w3]
        by_cases hjc : j = u.2 15 s
        · subst hjc; rw [up_s, up_s]
        · rw [up_n _ _ hjc, up_n _ _ (by omega)]; exact w7 j (by omega)
      by_cases hend : u.2 15 s + 1 = u.2 16 s
      · -- whole
        refine ⟨i + 1, sA (sI c 5 (c.1 5 + 1)) 0 (va_up (c.2 0) (c.1 5) (u.2 11 i)), ?_, Or.inr ⟨?_, ?_, sA (sA u 15 (va_up (u.2 15) s (u.2 15 s + 1))) 18 (va_up (u.2 18) (60 * s + u.2 15 s) (u.2 11 i)), ?_, rfl, ?_, oth1, ?_⟩⟩
        · rw [stepC]
          obtain ⟨fu', rfl⟩ : ∃ fu', fu = fu' + 1 := ⟨fu - 1, by omega⟩
          rw [fC_fill_L2]
          by_cases h16 : 16 ≤ i + 1
          · simp (disch := omega) only [ite_true, ite_false, not_true_eq_false, not_false_eq_true, ss_p, if_pos]
          · simp (disch := omega) only [ite_true, ite_false, not_true_eq_false, not_false_eq_true, ss_p, if_neg, sA_1, sI_1, up_s, up_n, if_pos]
        · simp (disch := omega) only [ite_true, ite_false, not_true_eq_false, not_false_eq_true, sA_1, sI_1, up_s, up_n]; omega
        · simp (disch := omega) only [ite_true, ite_false, not_true_eq_false, not_false_eq_true, sA_1, sI_1, up_n]; omega
        · refine ⟨⟨by simp (disch := omega) only [ite_true, ite_false, not_true_eq_false, not_false_eq_true, sA_1, sI_1, sA_2, up_n]; exact c0, by simp (disch := omega) only [ite_true, ite_false, not_true_eq_false, not_false_eq_true, sA_1, sI_1, sA_2, up_n]; exact c1, by simp (disch := omega) only [ite_true, ite_false, not_true_eq_false, not_false_eq_true, sA_2, up_n]; exact l0, by simp (disch := omega) only [ite_true, ite_false, not_true_eq_false, not_false_eq_true, sA_2, up_n]; exact l1⟩, ⟨by simp (disch := omega) only [ite_true, ite_false, not_true_eq_false, not_false_eq_true, sA_1, sI_1, sA_2, up_n]; exact w1, by simp (disch := omega) only [ite_true, ite_false, not_true_eq_false, not_false_eq_true, sA_1, sI_1, sA_2, up_n]; exact w2, by simp (disch := omega) only [ite_true, ite_false, not_true_eq_false, not_false_eq_true, sA_2, up_n]; omega, by simp (disch := omega) only [ite_true, ite_false, not_true_eq_false, not_false_eq_true, sA_2, up_n]; exact w5, by simp (disch := omega) only [ite_true, ite_false, not_true_eq_false, not_false_eq_true, sA_2, up_n]; exact w6, ?_⟩, by simp (disch := omega) only [ite_true, ite_false, not_true_eq_false, not_false_eq_true, sA_1, sI_1, sA_2, up_n]; exact hlast.1⟩
          simp (disch := omega) only [ite_true, ite_false, not_true_eq_false, not_false_eq_true, sA_2, up_s, up_n]
          intro j hj
          exact bytes1 j (by omega)
        · simp (disch := omega) only [ite_true, ite_false, not_true_eq_false, not_false_eq_true, sA_2, up_n]
        · intro z hz hz14
          refine ⟨i + 1, ?_⟩
          obtain ⟨fu', rfl⟩ : ∃ fu', fu = fu' + 1 := ⟨fu - 1, by omega⟩
          rw [fM_collect_L2]
          simp (disch := omega) only [ite_true, ite_false, not_true_eq_false, not_false_eq_true, ss_p, if_neg, up_s, ob_some, lt_def, hz]
          rw [fM_collect_L2]
          by_cases h16 : 16 ≤ i + 1
          · simp (disch := omega) only [ite_true, ite_false, not_true_eq_false, not_false_eq_true, ss_p, if_pos]
          · simp (disch := omega) only [ite_true, ite_false, not_true_eq_false, not_false_eq_true, ss_p, if_neg, if_pos]
      · -- not yet
        have hcn : CRy (sA (sI c 5 (c.1 5 + 1)) 0 (va_up (c.2 0) (c.1 5) (u.2 11 i))) (sA (sA u 15 (va_up (u.2 15) s (u.2 15 s + 1))) 18 (va_up (u.2 18) (60 * s + u.2 15 s) (u.2 11 i))) s := by
          unfold CRy
          simp (disch := omega) only [ite_true, ite_false, not_true_eq_false, not_false_eq_true, sA_2, up_s, up_n]
          refine ⟨⟨by simp (disch := omega) only [ite_true, ite_false, not_true_eq_false, not_false_eq_true, sA_1, sI_1, up_n]; exact c0, by simp (disch := omega) only [ite_true, ite_false, not_true_eq_false, not_false_eq_true, sA_1, sI_1, up_n]; exact c1, by simp (disch := omega) only [ite_true, ite_false, not_true_eq_false, not_false_eq_true, sA_1, sI_1, up_n]; exact c2, l0, l1, l2⟩, fun _ => ⟨⟨by simp (disch := omega) only [ite_true, ite_false, not_true_eq_false, not_false_eq_true, sA_1, sI_1, up_n]; exact w1, by simp (disch := omega) only [ite_true, ite_false, not_true_eq_false, not_false_eq_true, sA_1, sI_1, up_n]; exact w2, by simp (disch := omega) only [ite_true, ite_false, not_true_eq_false, not_false_eq_true, sA_1, sI_1, up_s]; omega, by omega, w5, w6⟩, ?_⟩, ?_⟩
          · simp (disch := omega) only [ite_true, ite_false, not_true_eq_false, not_false_eq_true, sA_2, sI_2, up_s]
            exact bytes1
          · simp (disch := omega) only [ite_true, ite_false, not_true_eq_false, not_false_eq_true, sA_1, sA_2, sI_1, sI_2, up_n]
            exact hlast
        obtain ⟨i', c', e1, hcase⟩ := ih (i + 1) _ _ (by omega) (by omega) hcn (by simp (disch := omega) only [ite_true, ite_false, not_true_eq_false, not_false_eq_true, sA_2, up_n]; exact h14) (by simp (disch := omega) only [ite_true, ite_false, not_true_eq_false, not_false_eq_true, sA_2, up_n]; exact hk)
        have stepM : fM_collect_L2 s (fu + 1) i u = fM_collect_L2 s fu (i + 1) (sA (sA u 15 (va_up (u.2 15) s (u.2 15 s + 1))) 18 (va_up (u.2 18) (60 * s + u.2 15 s) (u.2 11 i))) := by
          rw [fM_collect_L2]
          simp (disch := omega) only [ite_true, ite_false, not_true_eq_false, not_false_eq_true, ss_p, if_neg, up_s]
          rw [if_pos hend, ob_some]
        refine ⟨i', c', by rw [stepC]; exact e1, ?_⟩
        rcases hcase with ⟨a1, a2, i2, u', a3, a4, a5, a6, a7⟩ | ⟨a1, a2, u1, a3, a4, a5, a6, a7⟩
        · exact Or.inl ⟨a1, a2, i2, u', by rw [stepM]; exact a3, a4, a5, by rw [a6]; simp (disch := omega) only [ite_true, ite_false, not_true_eq_false, not_false_eq_true, sA_2, up_n], oth1.trans a7⟩
        · exact Or.inr ⟨a1, a2, u1, a3, a4, by rw [a5]; simp (disch := omega) only [ite_true, ite_false, not_true_eq_false, not_false_eq_true, sA_2, up_n], oth1.trans a6, fun z hz hz14 => by rw [stepM]; exact a7 z hz hz14⟩
theorem eM_arr_L (s : Nat) (hs : s < 3) : ∀ (fu i : Nat) (u : ST), i ≤ 60 → 60 - i < fu → ∃ u' : ST, fM_arrive_L113 s fu i u = some (60, u') ∧ u'.1 = u.1 ∧ (∀ j, j ≠ 19 → u'.2 j = u.2 j) ∧ (∀ p, 60 * s + i ≤ p → p < 60 * s + 60 → u'.2 19 p = u.2 18 p) ∧ (∀ p, p < 60 * s + i ∨ 60 * s + 60 ≤ p → u'.2 19 p = u.2 19 p) := by
  intro fu
  induction fu with
  | zero => intro i u _ h; omega
  | succ fu ih =>
    intro i u hi hf
    rw [fM_arrive_L113]
    by_cases hc : i = 60
    · subst hc
      refine ⟨u, ?_, rfl, fun _ _ => rfl, fun p h1 h2 => by omega, fun _ _ => rfl⟩
      simp (disch := omega) only [ite_true, ite_false, not_true_eq_false, not_false_eq_true, ss_p, if_pos]
    · obtain ⟨u', e1, e2, e3, e4, e5⟩ := ih (i + 1) (sA u 19 (va_up (u.2 19) (60 * s + i) (u.2 18 (60 * s + i)))) (by omega) (by omega)
      refine ⟨u', ?_, e2, fun j hj => by rw [e3 j hj, sA_2, up_n _ _ hj], fun p h1 h2 => ?_, fun p hp => ?_⟩
      · simp (disch := omega) only [ite_true, ite_false, not_true_eq_false, not_false_eq_true, ss_p, if_neg]
        exact e1
      · by_cases hpi : p = 60 * s + i
        · rw [e5 p (by omega), sA_2, up_s, hpi, up_s]
        · rw [e4 p (by omega) h2]; simp (disch := omega) only [ite_true, ite_false, not_true_eq_false, not_false_eq_true, sA_2, up_n]
      · rw [e5 p (by omega), sA_2, up_s, up_n _ _ (by omega)]
