/-- one step of the choice: (chosen, its time) so far; stream i, ready or not, due at d -/
def cst (p : Nat × Nat) (r d i : Nat) : Nat × Nat := if r = 0 then p else if p.1 = 3 then (i, d) else if p.2 ≤ d then p else (i, d)
def c3 (r0 r1 r2 d0 d1 d2 : Nat) : Nat := (cst (cst (cst (3, 0) r0 d0 0) r1 d1 1) r2 d2 2).1
theorem cst_b {p : Nat × Nat} {r d i : Nat} (h1 : p.1 ≤ 3) (h2 : p.2 < 2147483648) (hd : r = 0 ∨ d < 2147483648) (hi : i < 3) : (cst p r d i).1 ≤ 3 ∧ (cst p r d i).2 < 2147483648 := by
  unfold cst
  split
  · exact ⟨h1, h2⟩
  · split
    · refine ⟨?_, ?_⟩
      · show i ≤ 3; omega
      · show d < 2147483648; omega
    · split
      · exact ⟨h1, h2⟩
      · refine ⟨?_, ?_⟩
        · show i ≤ 3; omega
        · show d < 2147483648; omega
theorem cst_d {p : Nat × Nat} {r d d' i : Nat} (h : r = 0 ∨ d = d') : cst p r d i = cst p r d' i := by
  rcases h with h | h
  · unfold cst; rw [if_pos h, if_pos h]
  · rw [h]
theorem cst_i {p : Nat × Nat} {r d i : Nat} : (cst p r d i).1 = p.1 ∨ ((cst p r d i).1 = i ∧ r ≠ 0) := by
  unfold cst
  by_cases z : r = 0
  · rw [if_pos z]; exact Or.inl rfl
  · rw [if_neg z]
    by_cases z3 : p.1 = 3
    · rw [if_pos z3]; exact Or.inr ⟨rfl, z⟩
    · rw [if_neg z3]
      by_cases z4 : p.2 ≤ d
      · rw [if_pos z4]; exact Or.inl rfl
      · rw [if_neg z4]; exact Or.inr ⟨rfl, z⟩
theorem c3_ok (r0 r1 r2 d0 d1 d2 : Nat) : c3 r0 r1 r2 d0 d1 d2 = 3 ∨ (c3 r0 r1 r2 d0 d1 d2 = 0 ∧ r0 ≠ 0) ∨ (c3 r0 r1 r2 d0 d1 d2 = 1 ∧ r1 ≠ 0) ∨ (c3 r0 r1 r2 d0 d1 d2 = 2 ∧ r2 ≠ 0) := by
  unfold c3
  rcases cst_i (p := cst (cst (3, 0) r0 d0 0) r1 d1 1) (r := r2) (d := d2) (i := 2) with h | ⟨h, z⟩
  · rcases cst_i (p := cst (3, 0) r0 d0 0) (r := r1) (d := d1) (i := 1) with h' | ⟨h', z⟩
    · rcases cst_i (p := (3, 0)) (r := r0) (d := d0) (i := 0) with h'' | ⟨h'', z⟩
      · exact Or.inl (h.trans (h'.trans h''))
      · exact Or.inr (Or.inl ⟨h.trans (h'.trans h''), z⟩)
    · exact Or.inr (Or.inr (Or.inl ⟨h.trans h', z⟩))
  · exact Or.inr (Or.inr (Or.inr ⟨h, z⟩))
theorem chC0 {u : ST} {r : Nat} : (if r = 0 then (some (3, 0) : Option (Nat × Nat)) else ob (fU_firstDue u) (fun r7 => (some (0, r7) : Option (Nat × Nat)))) = some (cst (3, 0) r (u.2 1 0) 0) := by
  unfold cst fU_firstDue
  by_cases z : r = 0
  · rw [if_pos z, if_pos z]
  · rw [if_neg z, if_neg z, if_pos rfl]; rfl
theorem chC {u : ST} {p : Nat × Nat} {r i : Nat} (hp : p.1 ≤ 3) (hp2 : p.2 < 2147483648) (hd : r = 0 ∨ u.2 1 0 < 2147483648) :
    (if r = 0 then (some (p.1, p.2) : Option (Nat × Nat)) else ob (fU_firstDue u) (fun r16 => ss (p.1 < 2147483648) ((if p.1 = 3 then (some (i, r16) : Option (Nat × Nat)) else ss (r16 < 2147483648) (ss (p.2 < 2147483648) ((if p.2 ≤ r16 then (some (p.1, p.2) : Option (Nat × Nat)) else (some (i, r16) : Option (Nat × Nat))))))))) = some (cst p r (u.2 1 0) i) := by
  unfold cst fU_firstDue
  by_cases z : r = 0
  · rw [if_pos z, if_pos z]
  · rw [if_neg z, if_neg z, ob_some, ss_p (by omega)]
    by_cases z3 : p.1 = 3
    · rw [if_pos z3, if_pos z3]
    · rw [if_neg z3, if_neg z3, ss_p (by omega), ss_p hp2]
      by_cases z4 : p.2 ≤ u.2 1 0
      · rw [if_pos z4, if_pos z4]
      · rw [if_neg z4, if_neg z4]
theorem eX_choose {x : XS} {b r0 r1 r2 : Nat} (h0 : fS_isReady (x 1) (x 2) (x 3) b ((x 0).1 1) = some r0) (h1 : fS_isReady (x 4) (x 5) (x 6) b ((x 0).1 1) = some r1) (h2 : fS_isReady (x 7) (x 8) (x 9) b ((x 0).1 1) = some r2)
    (b0 : r0 < 2147483648) (b1 : r1 < 2147483648) (b2 : r2 < 2147483648) (d0 : r0 = 0 ∨ (x 2).2 1 0 < 2147483648) (d1 : r1 = 0 ∨ (x 5).2 1 0 < 2147483648) (d2 : r2 = 0 ∨ (x 8).2 1 0 < 2147483648) :
    fX_chooseStream x b = some (c3 r0 r1 r2 ((x 2).2 1 0) ((x 5).2 1 0) ((x 8).2 1 0)) := by
  have c1 := cst_b (p := (3, 0)) (by show 3 ≤ 3; omega) (by show 0 < 2147483648; omega) d0 (i := 0) (by omega)
  have c2 := cst_b c1.1 c1.2 d1 (i := 1) (by omega)
  unfold fX_chooseStream c3
  rw [h0, ob_some, ss_p b0, chC0, ob_some, h1, ob_some, ss_p b1, chC c1.1 c1.2 d1, ob_some, h2, ob_some, ss_p b2, chC c2.1 c2.2 d2, ob_some]
theorem eM_ch_step {y : ST} {fu i1 i2 i3 r : Nat} (hi : i3 < 3) (hr : fM_ready y i3 = some r) (hb : r < 2147483648) (hd : r = 0 ∨ y.2 2 (512 * i3 + y.2 6 i3) < 2147483648) (hx : r = 0 ∨ 512 * i3 + y.2 6 i3 < 1536) (h1 : i1 ≤ 3) (h2 : i2 < 2147483648) :
    fM_chosen_L6 y (fu + 1) i1 i2 i3 = fM_chosen_L6 y fu (cst (i1, i2) r (y.2 2 (512 * i3 + y.2 6 i3)) i3).1 (cst (i1, i2) r (y.2 2 (512 * i3 + y.2 6 i3)) i3).2 (i3 + 1) := by
  rw [fM_chosen_L6, hr]
  generalize y.2 2 (512 * i3 + y.2 6 i3) = d at hd ⊢
  generalize fM_chosen_L6 y fu = F
  by_cases z : r = 0 <;> by_cases z3 : i1 = 3 <;> by_cases zd : i2 ≤ d <;> simp (disch := omega) only [ite_true, ite_false, not_true_eq_false, not_false_eq_true, cst, ob_some, ss_p, if_pos, if_neg]
theorem eM_chosen {y : ST} {r0 r1 r2 : Nat} (h0 : fM_ready y 0 = some r0) (h1 : fM_ready y 1 = some r1) (h2 : fM_ready y 2 = some r2) (b0 : r0 < 2147483648) (b1 : r1 < 2147483648) (b2 : r2 < 2147483648)
    (d0 : r0 = 0 ∨ y.2 2 (512 * 0 + y.2 6 0) < 2147483648) (d1 : r1 = 0 ∨ y.2 2 (512 * 1 + y.2 6 1) < 2147483648) (d2 : r2 = 0 ∨ y.2 2 (512 * 2 + y.2 6 2) < 2147483648)
    (x0 : r0 = 0 ∨ 512 * 0 + y.2 6 0 < 1536) (x1 : r1 = 0 ∨ 512 * 1 + y.2 6 1 < 1536) (x2 : r2 = 0 ∨ 512 * 2 + y.2 6 2 < 1536) :
    fM_chosen y = some (c3 r0 r1 r2 (y.2 2 (512 * 0 + y.2 6 0)) (y.2 2 (512 * 1 + y.2 6 1)) (y.2 2 (512 * 2 + y.2 6 2))) := by
  have s1 := eM_ch_step (fu := 99) (i1 := 3) (i2 := 0) (by omega) h0 b0 d0 x0 (by omega) (by omega)
  have c1 := cst_b (p := (3, 0)) (by show 3 ≤ 3; omega) (by show 0 < 2147483648; omega) d0 (i := 0) (by omega)
  have s2 := eM_ch_step (fu := 98) (by omega) h1 b1 d1 x1 c1.1 c1.2
  have c2 := cst_b c1.1 c1.2 d1 (i := 1) (by omega)
  have s3 := eM_ch_step (fu := 97) (by omega) h2 b2 d2 x2 c2.1 c2.2
  have e4 : ∀ a b : Nat, fM_chosen_L6 y 97 a b 3 = some (a, b, 3) := by
    intro a b
    rw [fM_chosen_L6]
    simp (disch := omega) only [ite_true, ite_false, not_true_eq_false, not_false_eq_true, ss_p, if_pos]
  unfold fM_chosen c3
  rw [show fM_chosen_L6 y 100 3 0 0 = _ from s1, show fM_chosen_L6 y 99 _ _ (0 + 1) = _ from s2, show fM_chosen_L6 y 98 _ _ (1 + 1) = _ from s3, e4, ob_some]
