def x0 (lk cp : Nat) (u : Nat → Nat) : XS := fun k => (if k = 0 then (fun j => if j = 0 then lk else if j = 1 then cp else 0) else if k = 11 then (fun j => if j = 6 then u 39 else if j = 9 then u 40 else 0) else if k = 12 then (fun j => if j = 6 then u 41 else if j = 9 then u 42 else 0) else if k = 13 then (fun j => if j = 6 then u 43 else if j = 9 then u 44 else 0) else (fun _ => 0), fun _ _ => 0)
def m0 (lk cp : Nat) : ST := (fun j => if j = 0 then lk else if j = 1 then cp else 0, fun _ _ => 0)
theorem cl_lo {lo hi : Nat} {v : Int32} (h : ¬ nI lo ≤ v) (hl : lo < 2147483648) : nI lo = nI (clN lo hi v) := by
  have h1 : (nI lo).toInt = lo := nI_toInt (by omega)
  rw [Int32.le_iff_toInt_le, h1] at h
  unfold clN
  rw [if_pos (by omega)]
theorem cl_hi {lo hi : Nat} {v : Int32} (h : ¬ v ≤ nI hi) (hl : lo ≤ hi) (hh : hi < 2147483648) : nI hi = nI (clN lo hi v) := by
  have h1 : (nI hi).toInt = hi := nI_toInt (by omega)
  rw [Int32.le_iff_toInt_le, h1] at h
  unfold clN
  rw [if_neg (by omega), if_pos (by omega)]
theorem cl_mid {lo hi : Nat} {v : Int32} (h : nI lo ≤ v) (h2 : v ≤ nI hi) (hl : lo ≤ hi) (hh : hi < 2147483648) : v = nI (clN lo hi v) := by
  have h1 : (nI lo).toInt = lo := nI_toInt (by omega)
  have h3 : (nI hi).toInt = hi := nI_toInt (by omega)
  rw [Int32.le_iff_toInt_le, h1] at h
  rw [Int32.le_iff_toInt_le, h3] at h2
  unfold clN
  rw [if_neg (by omega), if_neg (by omega), nI_toNat (by omega)]
theorem df_C : ∀ j, j < 11 → defaultValue (t_C j) = vp_V [.int (nI 0), .int (nI 0), .int (nI 0), .int (nI 0), .int (nI 0), .int (nI 0), .null, .int (nI 0), .int (nI 0), .null, .int (nI 0)] j := by decide +kernel
theorem df_P : ∀ j, j < 2 → defaultValue (t_P j) = vp_V [.null, .int (nI 0)] j := by decide +kernel
theorem df_R : ∀ j, j < 4 → defaultValue (t_R j) = vp_V [.null, .null, .int (nI 0), .int (nI 0)] j := by decide +kernel
theorem df_S : ∀ j, j < 8 → defaultValue (t_S j) = vp_V [.null, .null, .int (nI 0), .int (nI 0), .int (nI 0), .int (nI 0), .int (nI 0), .int (nI 0)] j := by decide +kernel
theorem df_U : ∀ j, j < 4 → defaultValue (t_U j) = vp_V [.null, .null, .null, .int (nI 0)] j := by decide +kernel
theorem df_X : ∀ j, j < 8 → defaultValue (t_X j) = vp_V [.int (nI 0), .int (nI 0), .null, .null, .null, .null, .int (nI 0), .int (nI 0)] j := by decide +kernel
theorem df_M : ∀ j, j < 30 → defaultValue (t_M j) = vp_V [.int (nI 0), .int (nI 0), .int (nI 0), .null, .null, .null, .null, .null, .null, .null, .null, .null, .null, .int (nI 0), .null, .null, .int (nI 0), .int (nI 0), .null, .null, .null, .null, .null, .null, .null, .null, .null, .null, .null, .null] j := by decide +kernel
