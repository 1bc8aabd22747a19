theorem nI_dadd {x y z : Nat} (h : y ≤ x + z) : nI x - nI y + nI z = nI (x + z - y) := by
  rw [← pk_sub h, ← nI_add, Int32.sub_eq_add_neg, Int32.sub_eq_add_neg, Int32.add_assoc, Int32.add_assoc, Int32.add_comm (-nI y)]
theorem efloorMod {a b : Nat} (ha : a < 65536) (hb : b < 65536) : ffloorMod (nI a - nI b) (nI 65536) = some (nI ((a + 65536 - b) % 65536)) := by
  have hne : ¬ nI 65536 = 0 := by decide
  by_cases h : b ≤ a
  · rw [pk_sub h]
    have hx : (a - b) ^^^ 65536 < 2 ^ 17 := Nat.xor_lt_two_pow (by omega) (by omega)
    unfold ffloorMod
    rw [ss_p hne, nI_xor, if_pos (nI_pos' (by omega)), pk_rem (by omega) (by omega) (by omega)]
    rw [show (a + 65536 - b) % 65536 = (a - b) % 65536 by omega]
  · have hz : (nI a - nI b).toInt = (a : Int) - b := pk_sub_toInt (by omega) (by omega)
    have hneg : (nI a - nI b).toInt < 0 := by omega
    have hxn : ¬ 0 ≤ (nI a - nI b) ^^^ nI 65536 := by
      intro h9
      have h10 : (0 : Int32).toInt ≤ ((nI a - nI b) ^^^ nI 65536).toInt := Int32.le_iff_toInt_le.mp h9
      have h11 : (0 : Int32).toInt = 0 := by decide
      have hm : ((nI a - nI b) ^^^ nI 65536).toBitVec.msb = true := by
        show ((nI a - nI b).toBitVec ^^^ (nI 65536).toBitVec).msb = true
        rw [BitVec.msb_xor, BitVec.msb_eq_toInt (x := (nI a - nI b).toBitVec), decide_eq_true (show (nI a - nI b).toBitVec.toInt < 0 from hneg)]
        decide
      rw [BitVec.msb_eq_toInt] at hm
      have hm := of_decide_eq_true hm
      have hm : ((nI a - nI b) ^^^ nI 65536).toInt < 0 := hm
      omega
    have hdiv : (nI a - nI b) / nI 65536 = 0 := by
      apply Int32.toInt_inj.mp
      rw [Int32.toInt_div_of_ne_right _ _ (by decide), hz, show (nI 65536).toInt = ((65536 : Nat) : Int) by decide, show (a : Int) - b = -((b - a : Nat) : Int) by omega, Int.neg_tdiv, ← Int.ofNat_tdiv, Nat.div_eq_of_lt (by omega)]
      decide
    have hrem : nI a - nI b - (nI a - nI b) / nI 65536 * nI 65536 = nI a - nI b := by
      rw [hdiv, Int32.zero_mul, Int32.sub_zero]
    have hnz : ¬ nI a - nI b = 0 := by
      intro h9
      rw [h9] at hneg
      exact absurd hneg (by decide)
    unfold ffloorMod
    rw [ss_p hne, if_neg hxn, hrem, if_neg hnz, nI_dadd (by omega), Nat.mod_eq_of_lt (by omega)]
/-- the receiver's own numbers beside the reference's -/
def RR (r y : ST) : Prop := r.1 2 = y.1 16 ∧ y.1 16 ≤ 1 ∧ (y.1 16 = 1 → r.1 3 = y.1 17) ∧ y.1 17 < 65536 ∧ r.1 3 < 65536 ∧ ∀ k, k < 6 → r.2 0 k = y.2 23 k
/-- a collector beside the reference's numbers of its stream -/
def CR (c : ST) (by_ la_ : Nat → Nat) (o ca ct cl ha wa wd ar ls ld : Nat) : Prop :=
  (c.1 0 = ca ∧ c.1 1 = ct ∧ c.1 2 = cl ∧ ca ≤ 1 ∧ ct < 16 ∧ cl ≤ 1) ∧
  (cl = 1 → (c.1 3 = wa ∧ c.1 4 = wd ∧ c.1 5 = ha ∧ ha < wa ∧ wa ≤ 60 ∧ wd < 65536) ∧ ∀ j, j < ha → c.2 0 j = by_ (o + j)) ∧
  (c.1 10 = ar ∧ (0 < ar → (c.1 7 = ls ∧ c.1 8 = ld ∧ 1 ≤ ls ∧ ls ≤ 60) ∧ ∀ j, j < ls → c.2 1 j = la_ (o + j)))
def CRy (c y : ST) (s : Nat) : Prop := CR c (y.2 18) (y.2 19) (60 * s) (y.2 12 s) (y.2 13 s) (y.2 14 s) (y.2 15 s) (y.2 16 s) (y.2 17 s) (y.2 22 s) (y.2 20 s) (y.2 21 s)
theorem RR.keep {r y y' : ST} (h : RR r y) (h1 : y'.1 16 = y.1 16) (h2 : y'.1 17 = y.1 17) (h3 : y'.2 23 = y.2 23) : RR r y' := by
  unfold RR at h ⊢; rw [h1, h2, h3]; exact h
