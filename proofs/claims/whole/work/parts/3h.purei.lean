theorem arr_same (s : Nat) : ∀ (fu i : Nat) (u : ST) (o : Nat × ST), fM_arrive_L113 s fu i u = some o → o.2.2 22 = u.2 22 ∧ o.2.2 14 = u.2 14 := by
  intro fu
  induction fu with
  | zero => intro i u o h; rw [fM_arrive_L113] at h; cases h
  | succ fu ih =>
    intro i u o h
    rw [fM_arrive_L113] at h
    obtain ⟨-, h⟩ := ss_s h
    split at h
    · cases h; exact ⟨rfl, rfl⟩
    · obtain ⟨-, h⟩ := ss_s h
      obtain ⟨a, b⟩ := ih _ _ _ h
      exact ⟨by rw [a, sA_2, up_n _ _ (by omega)], by rw [b, sA_2, up_n _ _ (by omega)]⟩
theorem arr_inc {u z : ST} {s : Nat} (h : fM_arrive u s = some z) : z.2 22 = va_up (u.2 22) s (u.2 22 s + 1) ∧ z.2 14 s = 0 := by
  unfold fM_arrive at h
  obtain ⟨-, h⟩ := ss_s h
  obtain ⟨-, h⟩ := ss_s h
  obtain ⟨-, h⟩ := ss_s h
  obtain ⟨-, h⟩ := ss_s h
  obtain ⟨j6, -, h⟩ := ob_s h
  obtain ⟨o, h1, h⟩ := ob_s h
  cases h
  obtain ⟨a, b⟩ := arr_same _ _ _ _ _ h1
  exact ⟨by rw [a]; simp (disch := omega) only [ite_true, ite_false, not_true_eq_false, not_false_eq_true, sA_2, up_s, up_n], by rw [b]; simp (disch := omega) only [ite_true, ite_false, not_true_eq_false, not_false_eq_true, sA_2, up_s, up_n]⟩
theorem col_inc (s : Nat) : ∀ (fu i : Nat) (u : ST) (o : Nat × ST), fM_collect_L2 s fu i u = some o → ∀ k, o.2.2 22 k ≤ u.2 22 k + (if u.2 14 s = 0 then 0 else 1) := by
  intro fu
  induction fu with
  | zero => intro i u o h; rw [fM_collect_L2] at h; cases h
  | succ fu ih =>
    intro i u o h k
    rw [fM_collect_L2] at h
    obtain ⟨-, h⟩ := ss_s h
    split at h
    · cases h; exact Nat.le_add_right _ _
    · obtain ⟨-, h⟩ := ss_s h
      obtain ⟨-, h⟩ := ss_s h
      split at h
      · cases h; exact Nat.le_add_right _ _
      · rename_i h14
        obtain ⟨-, h⟩ := ss_s h
        obtain ⟨-, h⟩ := ss_s h
        obtain ⟨-, h⟩ := ss_s h
        obtain ⟨-, h⟩ := ss_s h
        obtain ⟨z, h1, h⟩ := ob_s h
        have h2 := ih _ _ _ h k
        split at h1
        · cases h1
          simp (disch := omega) only [ite_true, ite_false, not_true_eq_false, not_false_eq_true, sA_2, up_n] at h2
          rw [if_neg h14] at h2 ⊢
          exact h2
        · obtain ⟨w, hw, h1⟩ := lt_s2 h1
          obtain ⟨z2, h3, h1⟩ := ob_s h1
          cases h1
          obtain ⟨a, b⟩ := arr_inc h3
          rw [if_pos b, a, hw] at h2
          simp (disch := omega) only [ite_true, ite_false, not_true_eq_false, not_false_eq_true, sA_2, up_n] at h2
          rw [if_neg h14]
          by_cases hk : k = s
          · subst hk; rw [up_s] at h2; omega
          · rw [up_n _ _ hk] at h2; omega
theorem note_22 {y z : ST} {s i : Nat} (h : fM_note y s i = some z) : z.2 22 = y.2 22 := by
  have gb : ∀ {u w : ST}, fM_goBroken u s = some w → w.2 22 = u.2 22 := by
    intro u w h
    unfold fM_goBroken at h
    obtain ⟨-, h⟩ := ss_s h
    obtain ⟨-, h⟩ := ss_s h
    obtain ⟨j, -, h⟩ := ob_s h
    cases h
    simp (disch := omega) only [ite_true, ite_false, not_true_eq_false, not_false_eq_true, sA_2, up_n]
  unfold fM_note at h
  obtain ⟨-, h⟩ := ss_s h
  obtain ⟨-, h⟩ := ss_s h
  obtain ⟨j, h1, h⟩ := ob_s h
  cases h
  simp (disch := omega) only [ite_true, ite_false, not_true_eq_false, not_false_eq_true, sA_2, up_n]
  split at h1
  · cases h1; rfl
  · obtain ⟨-, h1⟩ := ss_s h1
    obtain ⟨-, h1⟩ := ss_s h1
    obtain ⟨-, h1⟩ := ss_s h1
    split at h1
    · cases h1; rfl
    · obtain ⟨w, hw, h1⟩ := lt_s2 h1
      obtain ⟨z2, h3, h1⟩ := ob_s h1
      cases h1
      rw [gb h3, hw, sA_2, up_n _ _ (by omega)]
theorem begin_22 {y : ST} {s a : Nat} {o : Nat × ST} (h : fM_begin y s a = some o) : o.2.2 22 = y.2 22 := by
  have gb : ∀ {u w : ST}, fM_goBroken u s = some w → w.2 22 = u.2 22 := by
    intro u w h
    unfold fM_goBroken at h
    obtain ⟨-, h⟩ := ss_s h
    obtain ⟨-, h⟩ := ss_s h
    obtain ⟨j, -, h⟩ := ob_s h
    cases h
    simp (disch := omega) only [ite_true, ite_false, not_true_eq_false, not_false_eq_true, sA_2, up_n]
  unfold fM_begin at h
  obtain ⟨w, h1, h⟩ := ob_s h
  obtain ⟨-, h⟩ := ss_s h
  obtain ⟨r4, -, h⟩ := ob_s h
  obtain ⟨-, h⟩ := ss_s h
  split at h
  · obtain ⟨-, h⟩ := ss_s h
    obtain ⟨-, h⟩ := ss_s h
    obtain ⟨-, h⟩ := ss_s h
    cases h
    simp (disch := omega) only [ite_true, ite_false, not_true_eq_false, not_false_eq_true, sA_2, up_n]
    exact gb h1
  · cases h
    simp (disch := omega) only [ite_true, ite_false, not_true_eq_false, not_false_eq_true, sA_2, up_n]
    exact gb h1
theorem hearL_22 (pl bits : Nat) : ∀ (fu i : Nat) (u : ST) (o : Nat × ST), fM_hear_L2 pl bits fu i u = some o → o.2.2 22 = u.2 22 := by
  intro fu
  induction fu with
  | zero => intro i u o h; rw [fM_hear_L2] at h; cases h
  | succ fu ih =>
    intro i u o h
    rw [fM_hear_L2] at h
    obtain ⟨-, h⟩ := ss_s h
    split at h
    · cases h; rfl
    · obtain ⟨-, h⟩ := ss_s h
      obtain ⟨j, -, h⟩ := ob_s h
      obtain ⟨-, h⟩ := ss_s h
      rw [ih _ _ _ h, sA_2, up_n _ _ (by omega)]
theorem hear_inc {y y' : ST} {pl bits : Nat} (h : fM_hear y pl bits = some y') : ∀ k, y'.2 22 k ≤ y.2 22 k + 1 := by
  intro k
  unfold fM_hear at h
  obtain ⟨o3, e1, h⟩ := ob_s h
  obtain ⟨-, h⟩ := ss_s h
  obtain ⟨j20, -, h⟩ := ob_s h
  obtain ⟨-, h⟩ := ss_s h
  obtain ⟨j25, -, h⟩ := ob_s h
  obtain ⟨-, h⟩ := ss_s h
  obtain ⟨j34, e4, h⟩ := ob_s h
  obtain ⟨-, h⟩ := ss_s h
  obtain ⟨-, h⟩ := ss_s h
  have h34 : j34.2 = o3.2.2 := by
    split at e4
    · obtain ⟨-, e4⟩ := ss_s e4
      obtain ⟨j38, -, e4⟩ := ob_s e4
      cases e4; rfl
    · cases e4; rfl
  have h22 : j34.2 22 = y.2 22 := by rw [h34, hearL_22 _ _ _ _ _ _ e1]
  split at h
  · obtain ⟨-, h⟩ := ss_s h
    split at h
    · cases h; rw [h22]; exact Nat.le_succ _
    · obtain ⟨r48, e5, h⟩ := ob_s h
      obtain ⟨j51, e6, h⟩ := ob_s h
      obtain ⟨r61, e7, h⟩ := ob_s h
      cases h
      have g1 := note_22 e5
      have g2 : j51.2.2 22 = r48.2 22 := by
        split at e6
        · split at e6
          · cases e6; rfl
          · cases e6; rfl
        · obtain ⟨j55, -, e6⟩ := ob_s e6
          obtain ⟨r58, e8, e6⟩ := ob_s e6
          cases e6
          exact begin_22 e8
      unfold fM_collect at e7
      obtain ⟨o, e9, e7⟩ := ob_s e7
      cases e7
      have g3 := col_inc _ _ _ _ _ e9 k
      rw [g2, g1, h22] at g3
      revert g3
      split <;> omega
  · cases h
    simp (disch := omega) only [ite_true, ite_false, not_true_eq_false, not_false_eq_true, sA_2, up_n]
    rw [h22]; exact Nat.le_succ _
/-- what holds of class and reference behind k calls -/
def Inv (x : XS) (y : ST) (k : Nat) : Prop := IS x y ∧ RI (x 10) (x 11) (x 12) (x 13) y ∧ y.1 2 ≤ 40 * k ∧ (∀ s, s < 3 → y.2 4 s ≤ k) ∧ (∀ s, s < 3 → y.2 22 s ≤ 40 * k)
theorem Inv.le {x : XS} {y : ST} {k k' : Nat} (h : Inv x y k) (hk : k ≤ k') : Inv x y k' := by
  obtain ⟨h1, h2, h3, h4, h5⟩ := h
  exact ⟨h1, h2, by omega, fun s hs => by have := h4 s hs; omega, fun s hs => by have := h5 s hs; omega⟩
theorem strm (v : Int32) : ((v = nI 0 ∨ v = nI 1 ∨ v = nI 2) ∧ fisStreamI v = some 1 ∧ fwithin v (nI 0) (nI 2) = some 1) ∨ (fisStreamI v = some 0 ∧ fwithin v (nI 0) (nI 2) = some 0) := by
  rcases pk_ix v (n := 3) (by omega) with h | h | ⟨j, hj, h⟩
  · right
    refine ⟨by unfold fisStreamI; rw [if_pos h], ?_⟩
    rw [ewithin, if_pos (Or.inl (show v < nI 0 from h))]
  · right
    refine ⟨?_, ?_⟩
    · unfold fisStreamI
      by_cases h0 : v < 0
      · rw [if_pos h0]
      · rw [if_neg h0, if_pos h]
    · have h2 : nI 2 < v := by
        rw [Int32.lt_iff_toInt_lt]; rw [Int32.le_iff_toInt_le] at h
        have a : (nI 2).toInt = 2 := by decide
        have b : (nI 3).toInt = 3 := by decide
        omega
      rw [ewithin, if_pos (Or.inr h2)]
  · left
    have hj3 : j = 0 ∨ j = 1 ∨ j = 2 := by omega
    rcases hj3 with rfl | rfl | rfl <;> subst h <;> refine ⟨?_, by decide, by decide⟩
    · exact Or.inl rfl
    · exact Or.inr (Or.inl rfl)
    · exact Or.inr (Or.inr rfl)
theorem n10 : (nI 1 = nI 0) = False := eq_false (by decide)
theorem n20 : (nI 2 = nI 0) = False := eq_false (by decide)
theorem n21 : (nI 2 = nI 1) = False := eq_false (by decide)
theorem ps0 : ¬ nI 0 < 0 := by decide
theorem ps1 : ¬ nI 1 < 0 := by decide
theorem ps2 : ¬ nI 2 < 0 := by decide
theorem cl0 : (nI 0).toNatClampNeg = 0 := by decide
theorem cl1 : (nI 1).toNatClampNeg = 1 := by decide
theorem cl2 : (nI 2).toNatClampNeg = 2 := by decide
theorem sim_waiting {x : XS} {y : ST} (v : Int32) (h : IS x y) : ∃ r, fX_waiting x v = some r ∧ fM_waiting y v = some r := by
  obtain ⟨⟨h0, h1, h2⟩, -⟩ := h
  rcases strm v with ⟨hc, e1, e2⟩ | ⟨e1, e2⟩
  · rcases hc with rfl | rfl | rfl
    · have hh := h0
      obtain ⟨⟨wq, wt⟩, ⟨e2', e3', e4', e5', e6', e7'⟩, ⟨i1, i2, i3, i4, i5⟩, -⟩ := hh
      refine ⟨_, by simp (disch := omega) only [fX_waiting, e1, ob_some, ss_p, if_neg, ite_true, ite_false, n10, n20, n21]; rfl, ?_⟩
      unfold fM_waiting
      rw [e2, ob_some, ss_p (by omega), if_neg (by omega), ss_p ps0, cl0, ss_p (by omega), ss_p i2, wq.1]
    · have hh := h1
      obtain ⟨⟨wq, wt⟩, ⟨e2', e3', e4', e5', e6', e7'⟩, ⟨i1, i2, i3, i4, i5⟩, -⟩ := hh
      refine ⟨_, by simp (disch := omega) only [fX_waiting, e1, ob_some, ss_p, if_neg, ite_true, ite_false, n10, n20, n21]; rfl, ?_⟩
      unfold fM_waiting
      rw [e2, ob_some, ss_p (by omega), if_neg (by omega), ss_p ps1, cl1, ss_p (by omega), ss_p i2, wq.1]
    · have hh := h2
      obtain ⟨⟨wq, wt⟩, ⟨e2', e3', e4', e5', e6', e7'⟩, ⟨i1, i2, i3, i4, i5⟩, -⟩ := hh
      refine ⟨_, by simp (disch := omega) only [fX_waiting, e1, ob_some, ss_p, if_neg, ite_true, ite_false, n10, n20, n21]; rfl, ?_⟩
      unfold fM_waiting
      rw [e2, ob_some, ss_p (by omega), if_neg (by omega), ss_p ps2, cl2, ss_p (by omega), ss_p i2, wq.1]
  · exact ⟨-1, by simp (disch := omega) only [fX_waiting, e1, ob_some, ss_p, ite_true], by simp (disch := omega) only [fM_waiting, e2, ob_some, ss_p, ite_true]⟩
theorem sim_stored {x : XS} {y : ST} (v : Int32) (h : IS x y) : ∃ r, fX_stored x v = some r ∧ fM_stored y v = some r := by
  obtain ⟨⟨h0, h1, h2⟩, -⟩ := h
  rcases strm v with ⟨hc, e1, e2⟩ | ⟨e1, e2⟩
  · rcases hc with rfl | rfl | rfl
    · have hh := h0
      obtain ⟨⟨wq, wt⟩, ⟨e2', e3', e4', e5', e6', e7'⟩, ⟨i1, i2, i3, i4, i5⟩, -⟩ := hh
      refine ⟨_, by simp (disch := omega) only [fX_stored, e1, ob_some, ss_p, if_neg, ite_true, ite_false, n10, n20, n21]; rfl, ?_⟩
      unfold fM_stored
      rw [e2, ob_some, ss_p (by omega), if_neg (by omega), ss_p ps0, cl0, ss_p (by omega), ss_p i1, wt.1]
    · have hh := h1
      obtain ⟨⟨wq, wt⟩, ⟨e2', e3', e4', e5', e6', e7'⟩, ⟨i1, i2, i3, i4, i5⟩, -⟩ := hh
      refine ⟨_, by simp (disch := omega) only [fX_stored, e1, ob_some, ss_p, if_neg, ite_true, ite_false, n10, n20, n21]; rfl, ?_⟩
      unfold fM_stored
      rw [e2, ob_some, ss_p (by omega), if_neg (by omega), ss_p ps1, cl1, ss_p (by omega), ss_p i1, wt.1]
    · have hh := h2
      obtain ⟨⟨wq, wt⟩, ⟨e2', e3', e4', e5', e6', e7'⟩, ⟨i1, i2, i3, i4, i5⟩, -⟩ := hh
      refine ⟨_, by simp (disch := omega) only [fX_stored, e1, ob_some, ss_p, if_neg, ite_true, ite_false, n10, n20, n21]; rfl, ?_⟩
      unfold fM_stored
      rw [e2, ob_some, ss_p (by omega), if_neg (by omega), ss_p ps2, cl2, ss_p (by omega), ss_p i1, wt.1]
  · exact ⟨-1, by simp (disch := omega) only [fX_stored, e1, ob_some, ss_p, ite_true], by simp (disch := omega) only [fM_stored, e2, ob_some, ss_p, ite_true]⟩
theorem sim_levels {x : XS} {y : ST} (v : Int32) (h : IS x y) : ∃ r, fX_levels x v = some r ∧ fM_levels y v = some r := by
  obtain ⟨⟨h0, h1, h2⟩, -⟩ := h
  rcases strm v with ⟨hc, e1, e2⟩ | ⟨e1, e2⟩
  · rcases hc with rfl | rfl | rfl
    · have hh := h0
      have eh := eM_high h0 (by omega)
      obtain ⟨⟨wq, wt⟩, ⟨e2', e3', e4', e5', e6', e7'⟩, ⟨i1, i2, i3, i4, i5⟩, -⟩ := hh
      refine ⟨_, by simp (disch := omega) only [fX_levels, e1, ob_some, ss_p, if_neg, ite_true, ite_false, n10, n20, n21]; rfl, ?_⟩
      unfold fM_levels
      rw [e2, ob_some, ss_p (by omega), if_pos (by omega), ss_p ps0, cl0, eh, ob_some, ss_p (by omega), e4', e3', Nat.mul_comm]
    · have hh := h1
      have eh := eM_high h1 (by omega)
      obtain ⟨⟨wq, wt⟩, ⟨e2', e3', e4', e5', e6', e7'⟩, ⟨i1, i2, i3, i4, i5⟩, -⟩ := hh
      refine ⟨_, by simp (disch := omega) only [fX_levels, e1, ob_some, ss_p, if_neg, ite_true, ite_false, n10, n20, n21]; rfl, ?_⟩
      unfold fM_levels
      rw [e2, ob_some, ss_p (by omega), if_pos (by omega), ss_p ps1, cl1, eh, ob_some, ss_p (by omega), e4', e3', Nat.mul_comm]
    · have hh := h2
      have eh := eM_high h2 (by omega)
      obtain ⟨⟨wq, wt⟩, ⟨e2', e3', e4', e5', e6', e7'⟩, ⟨i1, i2, i3, i4, i5⟩, -⟩ := hh
      refine ⟨_, by simp (disch := omega) only [fX_levels, e1, ob_some, ss_p, if_neg, ite_true, ite_false, n10, n20, n21]; rfl, ?_⟩
      unfold fM_levels
      rw [e2, ob_some, ss_p (by omega), if_pos (by omega), ss_p ps2, cl2, eh, ob_some, ss_p (by omega), e4', e3', Nat.mul_comm]
  · exact ⟨-1, by simp (disch := omega) only [fX_levels, e1, ob_some, ss_p, ite_true], by simp (disch := omega) only [fM_levels, e2, ob_some, ss_p, ite_true, if_neg, not_true_eq_false, ite_false]⟩
theorem sim_late {x : XS} {y : ST} (v : Int32) (h : IS x y) : ∃ r, fX_late x v = some r ∧ fM_late y v = some r := by
  obtain ⟨⟨h0, h1, h2⟩, -⟩ := h
  rcases strm v with ⟨hc, e1, e2⟩ | ⟨e1, e2⟩
  · rcases hc with rfl | rfl | rfl
    · have hh := h0
      obtain ⟨⟨wq, wt⟩, ⟨e2', e3', e4', e5', e6', e7'⟩, ⟨i1, i2, i3, i4, i5⟩, -⟩ := hh
      refine ⟨_, by simp (disch := omega) only [fX_late, e1, ob_some, ss_p, if_neg, ite_true, ite_false, n10, n20, n21]; rfl, ?_⟩
      unfold fM_late
      rw [e2, ob_some, ss_p (by omega), if_neg (by omega), ss_p ps0, cl0, ss_p (by omega), e6']
    · have hh := h1
      obtain ⟨⟨wq, wt⟩, ⟨e2', e3', e4', e5', e6', e7'⟩, ⟨i1, i2, i3, i4, i5⟩, -⟩ := hh
      refine ⟨_, by simp (disch := omega) only [fX_late, e1, ob_some, ss_p, if_neg, ite_true, ite_false, n10, n20, n21]; rfl, ?_⟩
      unfold fM_late
      rw [e2, ob_some, ss_p (by omega), if_neg (by omega), ss_p ps1, cl1, ss_p (by omega), e6']
    · have hh := h2
      obtain ⟨⟨wq, wt⟩, ⟨e2', e3', e4', e5', e6', e7'⟩, ⟨i1, i2, i3, i4, i5⟩, -⟩ := hh
      refine ⟨_, by simp (disch := omega) only [fX_late, e1, ob_some, ss_p, if_neg, ite_true, ite_false, n10, n20, n21]; rfl, ?_⟩
      unfold fM_late
      rw [e2, ob_some, ss_p (by omega), if_neg (by omega), ss_p ps2, cl2, ss_p (by omega), e6']
  · exact ⟨-1, by simp (disch := omega) only [fX_late, e1, ob_some, ss_p, ite_true], by simp (disch := omega) only [fM_late, e2, ob_some, ss_p, ite_true]⟩
