def fwithin  (x : Int32) (y : Int32) (z : Int32) : Option (Nat) := (if x < y then some 0 else (if z < x then some 0 else some 1))
abbrev rm_within : Room := { frames := 0, cells := 0, slots := 0, locals := 0 }
set_option maxHeartbeats 4000000 in
set_option maxRecDepth 100000 in
theorem cwithin (l : Launch) (D : va_G) (ci : Nat → ClassId)   (x : Int32) (y : Int32) (z : Int32) (o : Nat) (hF : fwithin x y z = some o) : CtI l y_M_within w_M_within rm_within D vwCl (tyC ci) [.int x, .int y, .int z] [] (nI o) [] := by
  refine ct_i (cc := b_M_within) (maxL := 3) (plainFor_of_name (by decide)) rfl (Nat.le_of_ble_eq_true rfl) (fun p9 e9 s9 m9 args9 be9 me9 c9 A9 Q9 ls H0 hx hb hml hts hown hK hN hl hP hD hS hA kR => ?_)
  replace hl : lv_has ls 3 [(0, .int x), (1, .int y), (2, .int z)] := hl
  replace hP : va_P D vwCl [] H0 := hP
  replace hD : va_D A9 [] := hD
  replace hown : s9.vm.findClass R_M = some m9.cls := hown
  have hT : ∀ w ∈ lw_ok, w.before args9 s9 = true := fun w h => hts w (List.mem_cons_of_mem _ h)
  rw [fwithin] at hF
  generalize hH : H0 = H at hP ⊢
  replace hS : va_S A9 H0 H [] := by rw [← hH]; exact hS
  clear hH
  generalize ([] : List Loc) = locs at hS ⊢
  refine lv_iload_n hx hb d_M_within_0 rfl (lv_at hl 0 rfl) ?_
  refine lv_iload_n hx hb d_M_within_1 rfl (lv_at hl 1 rfl) ?_
  refine lv_icmp_lt (tgt := 14) hx hb d_M_within_2 (by decide) (fun h1 => ?_) (fun h1 => ?_)
  · have hF := it_p hF h1
    refine lv_iconst (v := nI 0) hx hb d_M_within_14 (by decide) ?_
    obtain rfl := Option.some.inj hF
    exact kR _ _ _ _ d_M_within_15 (nar_b (x := 0) (by decide)) hP hD hS
  · have hF := it_n hF h1
    refine lv_iload_n hx hb d_M_within_5 rfl (lv_at hl 0 rfl) ?_
    refine lv_iload_n hx hb d_M_within_6 rfl (lv_at hl 2 rfl) ?_
    refine lv_icmp_gt (tgt := 14) hx hb d_M_within_7 (by decide) (fun h2 => ?_) (fun h2 => ?_)
    · have hF := it_p hF h2
      refine lv_iconst (v := nI 0) hx hb d_M_within_14 (by decide) ?_
      obtain rfl := Option.some.inj hF
      exact kR _ _ _ _ d_M_within_15 (nar_b (x := 0) (by decide)) hP hD hS
    · have hF := it_n hF h2
      refine lv_iconst (v := nI 1) hx hb d_M_within_10 (by decide) ?_
      refine lv_goto (tgt := 15) hx hb d_M_within_11 (by decide) ?_
      obtain rfl := Option.some.inj hF
      exact kR _ _ _ _ d_M_within_15 (nar_b (x := 1) (by decide)) hP hD hS
def fM_high_L33 (x : ST) (s : Nat) : Nat → Nat → Nat → Option (Nat × Nat)
  | 0, _, _ => none
  | fu + 1, i8, i9 => ss (s < 3) (ss (i9 < 2147483648) (ss (((x.2 6) s) < 2147483648) ((if ((x.2 6) s) ≤ i9 then some (i8, i9) else ss (((512 * s) + i9) < 1536) (fM_high_L33 x s fu (i8 + ((x.2 1) ((512 * s) + i9))) (i9 + 1))))))
def fM_high (x : ST) (s : Nat) : Option (Nat) := ss (s < 3) (ss (((x.2 6) s) < 2147483648) (ss (((x.2 4) s) < 2147483648) (ob (α := Nat) (if ((x.2 4) s) ≤ ((x.2 6) s) then (some 0 : Option (Nat)) else (some ((x.2 7) s) : Option (Nat))) (fun j5 => ob (fM_high_L33 x s 100 j5 ((x.2 5) s)) (fun o10 => some o10.1)))))
abbrev rm_M_high : Room := { frames := 0, cells := 0, slots := 0, locals := 0 }
set_option maxHeartbeats 4000000 in
set_option maxRecDepth 100000 in
theorem cM_high (l : Launch) (D : va_G) (ci : Nat → ClassId) (ad : Nat → Nat) (x : ST) (s : Nat) (o : Nat) (hF : fM_high x s = some o) : CtI l y_M_high w_M_high rm_M_high D vwCl (tyC ci) [.ref (ad 0), .int (nI s)] (wM ad ci x) (nI o) (wM ad ci x) := by
  refine ct_i (cc := b_M_high) (maxL := 4) (plainFor_of_name (by decide)) rfl (Nat.le_of_ble_eq_true rfl) (fun p9 e9 s9 m9 args9 be9 me9 c9 A9 Q9 ls H0 hx hb hml hts hown hK hN hl hP hD hS hA kR => ?_)
  replace hl : lv_has ls 4 [(0, .ref (ad 0)), (1, .int (nI s))] := hl
  replace hP : va_P D vwCl [(ad 0, .inr (6, [.int (nI (x.1 0)), .int (nI (x.1 1)), .int (nI (x.1 2)), .ref (ad 1), .ref (ad 2), .ref (ad 3), .ref (ad 4), .ref (ad 5), .ref (ad 6), .ref (ad 7), .ref (ad 8), .ref (ad 9), .ref (ad 10), .int (nI (x.1 13)), .ref (ad 11), .ref (ad 12), .int (nI (x.1 16)), .int (nI (x.1 17)), .ref (ad 13), .ref (ad 14), .ref (ad 15), .ref (ad 16), .ref (ad 17), .ref (ad 18), .ref (ad 19), .ref (ad 20), .ref (ad 21), .ref (ad 22), .ref (ad 23), .ref (ad 24)])), (ad 1, .inl (ci 0, 3, .inl (nF (x.2 0)))), (ad 2, .inl (ci 0, 1536, .inl (nF (x.2 1)))), (ad 3, .inl (ci 0, 1536, .inl (nF (x.2 2)))), (ad 4, .inl (ci 0, 1536, .inl (nF (x.2 3)))), (ad 5, .inl (ci 0, 3, .inl (nF (x.2 4)))), (ad 6, .inl (ci 0, 3, .inl (nF (x.2 5)))), (ad 7, .inl (ci 0, 3, .inl (nF (x.2 6)))), (ad 8, .inl (ci 0, 3, .inl (nF (x.2 7)))), (ad 9, .inl (ci 0, 3, .inl (nF (x.2 8)))), (ad 10, .inl (ci 0, 3, .inl (nF (x.2 9)))), (ad 11, .inl (ci 0, 16, .inl (nF (x.2 10)))), (ad 12, .inl (ci 0, 16, .inl (nF (x.2 11)))), (ad 13, .inl (ci 1, 3, .inl (nF (x.2 12)))), (ad 14, .inl (ci 0, 3, .inl (nF (x.2 13)))), (ad 15, .inl (ci 1, 3, .inl (nF (x.2 14)))), (ad 16, .inl (ci 0, 3, .inl (nF (x.2 15)))), (ad 17, .inl (ci 0, 3, .inl (nF (x.2 16)))), (ad 18, .inl (ci 0, 3, .inl (nF (x.2 17)))), (ad 19, .inl (ci 0, 180, .inl (nF (x.2 18)))), (ad 20, .inl (ci 0, 180, .inl (nF (x.2 19)))), (ad 21, .inl (ci 0, 3, .inl (nF (x.2 20)))), (ad 22, .inl (ci 0, 3, .inl (nF (x.2 21)))), (ad 23, .inl (ci 0, 3, .inl (nF (x.2 22)))), (ad 24, .inl (ci 0, 6, .inl (nF (x.2 23))))] H0 := hP
  replace hD : va_D A9 [(ad 0, .inr (6, [.int (nI (x.1 0)), .int (nI (x.1 1)), .int (nI (x.1 2)), .ref (ad 1), .ref (ad 2), .ref (ad 3), .ref (ad 4), .ref (ad 5), .ref (ad 6), .ref (ad 7), .ref (ad 8), .ref (ad 9), .ref (ad 10), .int (nI (x.1 13)), .ref (ad 11), .ref (ad 12), .int (nI (x.1 16)), .int (nI (x.1 17)), .ref (ad 13), .ref (ad 14), .ref (ad 15), .ref (ad 16), .ref (ad 17), .ref (ad 18), .ref (ad 19), .ref (ad 20), .ref (ad 21), .ref (ad 22), .ref (ad 23), .ref (ad 24)])), (ad 1, .inl (ci 0, 3, .inl (nF (x.2 0)))), (ad 2, .inl (ci 0, 1536, .inl (nF (x.2 1)))), (ad 3, .inl (ci 0, 1536, .inl (nF (x.2 2)))), (ad 4, .inl (ci 0, 1536, .inl (nF (x.2 3)))), (ad 5, .inl (ci 0, 3, .inl (nF (x.2 4)))), (ad 6, .inl (ci 0, 3, .inl (nF (x.2 5)))), (ad 7, .inl (ci 0, 3, .inl (nF (x.2 6)))), (ad 8, .inl (ci 0, 3, .inl (nF (x.2 7)))), (ad 9, .inl (ci 0, 3, .inl (nF (x.2 8)))), (ad 10, .inl (ci 0, 3, .inl (nF (x.2 9)))), (ad 11, .inl (ci 0, 16, .inl (nF (x.2 10)))), (ad 12, .inl (ci 0, 16, .inl (nF (x.2 11)))), (ad 13, .inl (ci 1, 3, .inl (nF (x.2 12)))), (ad 14, .inl (ci 0, 3, .inl (nF (x.2 13)))), (ad 15, .inl (ci 1, 3, .inl (nF (x.2 14)))), (ad 16, .inl (ci 0, 3, .inl (nF (x.2 15)))), (ad 17, .inl (ci 0, 3, .inl (nF (x.2 16)))), (ad 18, .inl (ci 0, 3, .inl (nF (x.2 17)))), (ad 19, .inl (ci 0, 180, .inl (nF (x.2 18)))), (ad 20, .inl (ci 0, 180, .inl (nF (x.2 19)))), (ad 21, .inl (ci 0, 3, .inl (nF (x.2 20)))), (ad 22, .inl (ci 0, 3, .inl (nF (x.2 21)))), (ad 23, .inl (ci 0, 3, .inl (nF (x.2 22)))), (ad 24, .inl (ci 0, 6, .inl (nF (x.2 23))))] := hD
  replace hown : s9.vm.findClass R_M = some m9.cls := hown
  have hT : ∀ w ∈ lw_ok, w.before args9 s9 = true := fun w h => hts w (List.mem_cons_of_mem _ h)
  rw [fM_high] at hF
  generalize hH : H0 = H at hP ⊢
  replace hS : va_S A9 H0 H [] := by rw [← hH]; exact hS
  clear hH
  generalize ([] : List Loc) = locs at hS ⊢
  refine lv_aload_n hx hb d_M_high_0 rfl (lv_at hl 0 rfl) ?_
  refine va_get (D := D) (ci := 6) (v := .ref (ad 7)) (C := R_M) (T := F_M) (N := 30) hx hb hT in_M hown hK hP 0 rfl rfl 9 (by decide) (hT _ wd_442) (fun _ h9 => h9) rfl d_M_high_1 ?_
  refine lv_iload_n hx hb d_M_high_4 rfl (lv_at hl 1 rfl) ?_
  obtain ⟨b1, hF⟩ := ss_s hF
  refine ln_ald hx hb hK hP 7 0 rfl rfl b1 (by decide) d_M_high_5 ?_
  refine lv_aload_n hx hb d_M_high_6 rfl (lv_at hl 0 rfl) ?_
  refine va_get (D := D) (ci := 6) (v := .ref (ad 5)) (C := R_M) (T := F_M) (N := 30) hx hb hT in_M hown hK hP 0 rfl rfl 7 (by decide) (hT _ wd_440) (fun _ h9 => h9) rfl d_M_high_7 ?_
  refine lv_iload_n hx hb d_M_high_10 rfl (lv_at hl 1 rfl) ?_
  refine ln_ald hx hb hK hP 5 0 rfl rfl b1 (by decide) d_M_high_11 ?_
  obtain ⟨b2, hF⟩ := ss_s hF
  obtain ⟨b3, hF⟩ := ss_s hF
  obtain ⟨j5, g7, hF⟩ := ob_s hF
  have k6 : ∀ (ls : Array Slot) (H : Heap) (locs : List Loc), lv_has ls 4 [(0, .ref (ad 0)), (1, .int (nI s))] → va_P D vwCl [(ad 0, .inr (6, [.int (nI (x.1 0)), .int (nI (x.1 1)), .int (nI (x.1 2)), .ref (ad 1), .ref (ad 2), .ref (ad 3), .ref (ad 4), .ref (ad 5), .ref (ad 6), .ref (ad 7), .ref (ad 8), .ref (ad 9), .ref (ad 10), .int (nI (x.1 13)), .ref (ad 11), .ref (ad 12), .int (nI (x.1 16)), .int (nI (x.1 17)), .ref (ad 13), .ref (ad 14), .ref (ad 15), .ref (ad 16), .ref (ad 17), .ref (ad 18), .ref (ad 19), .ref (ad 20), .ref (ad 21), .ref (ad 22), .ref (ad 23), .ref (ad 24)])), (ad 1, .inl (ci 0, 3, .inl (nF (x.2 0)))), (ad 2, .inl (ci 0, 1536, .inl (nF (x.2 1)))), (ad 3, .inl (ci 0, 1536, .inl (nF (x.2 2)))), (ad 4, .inl (ci 0, 1536, .inl (nF (x.2 3)))), (ad 5, .inl (ci 0, 3, .inl (nF (x.2 4)))), (ad 6, .inl (ci 0, 3, .inl (nF (x.2 5)))), (ad 7, .inl (ci 0, 3, .inl (nF (x.2 6)))), (ad 8, .inl (ci 0, 3, .inl (nF (x.2 7)))), (ad 9, .inl (ci 0, 3, .inl (nF (x.2 8)))), (ad 10, .inl (ci 0, 3, .inl (nF (x.2 9)))), (ad 11, .inl (ci 0, 16, .inl (nF (x.2 10)))), (ad 12, .inl (ci 0, 16, .inl (nF (x.2 11)))), (ad 13, .inl (ci 1, 3, .inl (nF (x.2 12)))), (ad 14, .inl (ci 0, 3, .inl (nF (x.2 13)))), (ad 15, .inl (ci 1, 3, .inl (nF (x.2 14)))), (ad 16, .inl (ci 0, 3, .inl (nF (x.2 15)))), (ad 17, .inl (ci 0, 3, .inl (nF (x.2 16)))), (ad 18, .inl (ci 0, 3, .inl (nF (x.2 17)))), (ad 19, .inl (ci 0, 180, .inl (nF (x.2 18)))), (ad 20, .inl (ci 0, 180, .inl (nF (x.2 19)))), (ad 21, .inl (ci 0, 3, .inl (nF (x.2 20)))), (ad 22, .inl (ci 0, 3, .inl (nF (x.2 21)))), (ad 23, .inl (ci 0, 3, .inl (nF (x.2 22)))), (ad 24, .inl (ci 0, 6, .inl (nF (x.2 23))))] H → va_D A9 [(ad 0, .inr (6, [.int (nI (x.1 0)), .int (nI (x.1 1)), .int (nI (x.1 2)), .ref (ad 1), .ref (ad 2), .ref (ad 3), .ref (ad 4), .ref (ad 5), .ref (ad 6), .ref (ad 7), .ref (ad 8), .ref (ad 9), .ref (ad 10), .int (nI (x.1 13)), .ref (ad 11), .ref (ad 12), .int (nI (x.1 16)), .int (nI (x.1 17)), .ref (ad 13), .ref (ad 14), .ref (ad 15), .ref (ad 16), .ref (ad 17), .ref (ad 18), .ref (ad 19), .ref (ad 20), .ref (ad 21), .ref (ad 22), .ref (ad 23), .ref (ad 24)])), (ad 1, .inl (ci 0, 3, .inl (nF (x.2 0)))), (ad 2, .inl (ci 0, 1536, .inl (nF (x.2 1)))), (ad 3, .inl (ci 0, 1536, .inl (nF (x.2 2)))), (ad 4, .inl (ci 0, 1536, .inl (nF (x.2 3)))), (ad 5, .inl (ci 0, 3, .inl (nF (x.2 4)))), (ad 6, .inl (ci 0, 3, .inl (nF (x.2 5)))), (ad 7, .inl (ci 0, 3, .inl (nF (x.2 6)))), (ad 8, .inl (ci 0, 3, .inl (nF (x.2 7)))), (ad 9, .inl (ci 0, 3, .inl (nF (x.2 8)))), (ad 10, .inl (ci 0, 3, .inl (nF (x.2 9)))), (ad 11, .inl (ci 0, 16, .inl (nF (x.2 10)))), (ad 12, .inl (ci 0, 16, .inl (nF (x.2 11)))), (ad 13, .inl (ci 1, 3, .inl (nF (x.2 12)))), (ad 14, .inl (ci 0, 3, .inl (nF (x.2 13)))), (ad 15, .inl (ci 1, 3, .inl (nF (x.2 14)))), (ad 16, .inl (ci 0, 3, .inl (nF (x.2 15)))), (ad 17, .inl (ci 0, 3, .inl (nF (x.2 16)))), (ad 18, .inl (ci 0, 3, .inl (nF (x.2 17)))), (ad 19, .inl (ci 0, 180, .inl (nF (x.2 18)))), (ad 20, .inl (ci 0, 180, .inl (nF (x.2 19)))), (ad 21, .inl (ci 0, 3, .inl (nF (x.2 20)))), (ad 22, .inl (ci 0, 3, .inl (nF (x.2 21)))), (ad 23, .inl (ci 0, 3, .inl (nF (x.2 22)))), (ad 24, .inl (ci 0, 6, .inl (nF (x.2 23))))] → va_S A9 H0 H locs → W p9 l e9 rm_M_high s9 m9 args9 be9 me9 c9 H locs 0 0 Q9 (F0 m9 25 ls [.int (nI j5)]) := by
    intro ls H locs hl hP hD hS
    refine lv_istore_n hx hb d_M_high_25 rfl hl (by decide) rfl (fun ls hl => ?_)
    replace hl : lv_has ls 4 [(2, .int (nI j5)), (0, .ref (ad 0)), (1, .int (nI s))] := hl
    refine lv_aload_n hx hb d_M_high_26 rfl (lv_at hl 1 rfl) ?_
    refine va_get (D := D) (ci := 6) (v := .ref (ad 6)) (C := R_M) (T := F_M) (N := 30) hx hb hT in_M hown hK hP 0 rfl rfl 8 (by decide) (hT _ wd_441) (fun _ h9 => h9) rfl d_M_high_27 ?_
    refine lv_iload_n hx hb d_M_high_30 rfl (lv_at hl 2 rfl) ?_
    refine ln_ald hx hb hK hP 6 0 rfl rfl b1 (by decide) d_M_high_31 ?_
    refine lv_istore_n hx hb d_M_high_32 rfl hl (by decide) rfl (fun ls hl => ?_)
    replace hl : lv_has ls 4 [(3, .int (nI ((x.2 5) s))), (2, .int (nI j5)), (0, .ref (ad 0)), (1, .int (nI s))] := hl
    have L18 : ∀ (fu : Nat) (i8 : Nat) (i9 : Nat) (o10 : Nat × Nat) (ls : Array Slot) (H : Heap) (locs : List Loc), fM_high_L33 x s fu i8 i9 = some o10 → lv_has ls 4 [(0, .ref (ad 0)), (1, .int (nI s)), (2, .int (nI i8)), (3, .int (nI i9))] → va_P D vwCl [(ad 0, .inr (6, [.int (nI (x.1 0)), .int (nI (x.1 1)), .int (nI (x.1 2)), .ref (ad 1), .ref (ad 2), .ref (ad 3), .ref (ad 4), .ref (ad 5), .ref (ad 6), .ref (ad 7), .ref (ad 8), .ref (ad 9), .ref (ad 10), .int (nI (x.1 13)), .ref (ad 11), .ref (ad 12), .int (nI (x.1 16)), .int (nI (x.1 17)), .ref (ad 13), .ref (ad 14), .ref (ad 15), .ref (ad 16), .ref (ad 17), .ref (ad 18), .ref (ad 19), .ref (ad 20), .ref (ad 21), .ref (ad 22), .ref (ad 23), .ref (ad 24)])), (ad 1, .inl (ci 0, 3, .inl (nF (x.2 0)))), (ad 2, .inl (ci 0, 1536, .inl (nF (x.2 1)))), (ad 3, .inl (ci 0, 1536, .inl (nF (x.2 2)))), (ad 4, .inl (ci 0, 1536, .inl (nF (x.2 3)))), (ad 5, .inl (ci 0, 3, .inl (nF (x.2 4)))), (ad 6, .inl (ci 0, 3, .inl (nF (x.2 5)))), (ad 7, .inl (ci 0, 3, .inl (nF (x.2 6)))), (ad 8, .inl (ci 0, 3, .inl (nF (x.2 7)))), (ad 9, .inl (ci 0, 3, .inl (nF (x.2 8)))), (ad 10, .inl (ci 0, 3, .inl (nF (x.2 9)))), (ad 11, .inl (ci 0, 16, .inl (nF (x.2 10)))), (ad 12, .inl (ci 0, 16, .inl (nF (x.2 11)))), (ad 13, .inl (ci 1, 3, .inl (nF (x.2 12)))), (ad 14, .inl (ci 0, 3, .inl (nF (x.2 13)))), (ad 15, .inl (ci 1, 3, .inl (nF (x.2 14)))), (ad 16, .inl (ci 0, 3, .inl (nF (x.2 15)))), (ad 17, .inl (ci 0, 3, .inl (nF (x.2 16)))), (ad 18, .inl (ci 0, 3, .inl (nF (x.2 17)))), (ad 19, .inl (ci 0, 180, .inl (nF (x.2 18)))), (ad 20, .inl (ci 0, 180, .inl (nF (x.2 19)))), (ad 21, .inl (ci 0, 3, .inl (nF (x.2 20)))), (ad 22, .inl (ci 0, 3, .inl (nF (x.2 21)))), (ad 23, .inl (ci 0, 3, .inl (nF (x.2 22)))), (ad 24, .inl (ci 0, 6, .inl (nF (x.2 23))))] H → va_D A9 [(ad 0, .inr (6, [.int (nI (x.1 0)), .int (nI (x.1 1)), .int (nI (x.1 2)), .ref (ad 1), .ref (ad 2), .ref (ad 3), .ref (ad 4), .ref (ad 5), .ref (ad 6), .ref (ad 7), .ref (ad 8), .ref (ad 9), .ref (ad 10), .int (nI (x.1 13)), .ref (ad 11), .ref (ad 12), .int (nI (x.1 16)), .int (nI (x.1 17)), .ref (ad 13), .ref (ad 14), .ref (ad 15), .ref (ad 16), .ref (ad 17), .ref (ad 18), .ref (ad 19), .ref (ad 20), .ref (ad 21), .ref (ad 22), .ref (ad 23), .ref (ad 24)])), (ad 1, .inl (ci 0, 3, .inl (nF (x.2 0)))), (ad 2, .inl (ci 0, 1536, .inl (nF (x.2 1)))), (ad 3, .inl (ci 0, 1536, .inl (nF (x.2 2)))), (ad 4, .inl (ci 0, 1536, .inl (nF (x.2 3)))), (ad 5, .inl (ci 0, 3, .inl (nF (x.2 4)))), (ad 6, .inl (ci 0, 3, .inl (nF (x.2 5)))), (ad 7, .inl (ci 0, 3, .inl (nF (x.2 6)))), (ad 8, .inl (ci 0, 3, .inl (nF (x.2 7)))), (ad 9, .inl (ci 0, 3, .inl (nF (x.2 8)))), (ad 10, .inl (ci 0, 3, .inl (nF (x.2 9)))), (ad 11, .inl (ci 0, 16, .inl (nF (x.2 10)))), (ad 12, .inl (ci 0, 16, .inl (nF (x.2 11)))), (ad 13, .inl (ci 1, 3, .inl (nF (x.2 12)))), (ad 14, .inl (ci 0, 3, .inl (nF (x.2 13)))), (ad 15, .inl (ci 1, 3, .inl (nF (x.2 14)))), (ad 16, .inl (ci 0, 3, .inl (nF (x.2 15)))), (ad 17, .inl (ci 0, 3, .inl (nF (x.2 16)))), (ad 18, .inl (ci 0, 3, .inl (nF (x.2 17)))), (ad 19, .inl (ci 0, 180, .inl (nF (x.2 18)))), (ad 20, .inl (ci 0, 180, .inl (nF (x.2 19)))), (ad 21, .inl (ci 0, 3, .inl (nF (x.2 20)))), (ad 22, .inl (ci 0, 3, .inl (nF (x.2 21)))), (ad 23, .inl (ci 0, 3, .inl (nF (x.2 22)))), (ad 24, .inl (ci 0, 6, .inl (nF (x.2 23))))] → va_S A9 H0 H locs → (∀ (ls : Array Slot) (H : Heap) (locs : List Loc), lv_has ls 4 [(0, .ref (ad 0)), (1, .int (nI s)), (2, .int (nI o10.1)), (3, .int (nI o10.2))] → va_P D vwCl [(ad 0, .inr (6, [.int (nI (x.1 0)), .int (nI (x.1 1)), .int (nI (x.1 2)), .ref (ad 1), .ref (ad 2), .ref (ad 3), .ref (ad 4), .ref (ad 5), .ref (ad 6), .ref (ad 7), .ref (ad 8), .ref (ad 9), .ref (ad 10), .int (nI (x.1 13)), .ref (ad 11), .ref (ad 12), .int (nI (x.1 16)), .int (nI (x.1 17)), .ref (ad 13), .ref (ad 14), .ref (ad 15), .ref (ad 16), .ref (ad 17), .ref (ad 18), .ref (ad 19), .ref (ad 20), .ref (ad 21), .ref (ad 22), .ref (ad 23), .ref (ad 24)])), (ad 1, .inl (ci 0, 3, .inl (nF (x.2 0)))), (ad 2, .inl (ci 0, 1536, .inl (nF (x.2 1)))), (ad 3, .inl (ci 0, 1536, .inl (nF (x.2 2)))), (ad 4, .inl (ci 0, 1536, .inl (nF (x.2 3)))), (ad 5, .inl (ci 0, 3, .inl (nF (x.2 4)))), (ad 6, .inl (ci 0, 3, .inl (nF (x.2 5)))), (ad 7, .inl (ci 0, 3, .inl (nF (x.2 6)))), (ad 8, .inl (ci 0, 3, .inl (nF (x.2 7)))), (ad 9, .inl (ci 0, 3, .inl (nF (x.2 8)))), (ad 10, .inl (ci 0, 3, .inl (nF (x.2 9)))), (ad 11, .inl (ci 0, 16, .inl (nF (x.2 10)))), (ad 12, .inl (ci 0, 16, .inl (nF (x.2 11)))), (ad 13, .inl (ci 1, 3, .inl (nF (x.2 12)))), (ad 14, .inl (ci 0, 3, .inl (nF (x.2 13)))), (ad 15, .inl (ci 1, 3, .inl (nF (x.2 14)))), (ad 16, .inl (ci 0, 3, .inl (nF (x.2 15)))), (ad 17, .inl (ci 0, 3, .inl (nF (x.2 16)))), (ad 18, .inl (ci 0, 3, .inl (nF (x.2 17)))), (ad 19, .inl (ci 0, 180, .inl (nF (x.2 18)))), (ad 20, .inl (ci 0, 180, .inl (nF (x.2 19)))), (ad 21, .inl (ci 0, 3, .inl (nF (x.2 20)))), (ad 22, .inl (ci 0, 3, .inl (nF (x.2 21)))), (ad 23, .inl (ci 0, 3, .inl (nF (x.2 22)))), (ad 24, .inl (ci 0, 6, .inl (nF (x.2 23))))] H → va_D A9 [(ad 0, .inr (6, [.int (nI (x.1 0)), .int (nI (x.1 1)), .int (nI (x.1 2)), .ref (ad 1), .ref (ad 2), .ref (ad 3), .ref (ad 4), .ref (ad 5), .ref (ad 6), .ref (ad 7), .ref (ad 8), .ref (ad 9), .ref (ad 10), .int (nI (x.1 13)), .ref (ad 11), .ref (ad 12), .int (nI (x.1 16)), .int (nI (x.1 17)), .ref (ad 13), .ref (ad 14), .ref (ad 15), .ref (ad 16), .ref (ad 17), .ref (ad 18), .ref (ad 19), .ref (ad 20), .ref (ad 21), .ref (ad 22), .ref (ad 23), .ref (ad 24)])), (ad 1, .inl (ci 0, 3, .inl (nF (x.2 0)))), (ad 2, .inl (ci 0, 1536, .inl (nF (x.2 1)))), (ad 3, .inl (ci 0, 1536, .inl (nF (x.2 2)))), (ad 4, .inl (ci 0, 1536, .inl (nF (x.2 3)))), (ad 5, .inl (ci 0, 3, .inl (nF (x.2 4)))), (ad 6, .inl (ci 0, 3, .inl (nF (x.2 5)))), (ad 7, .inl (ci 0, 3, .inl (nF (x.2 6)))), (ad 8, .inl (ci 0, 3, .inl (nF (x.2 7)))), (ad 9, .inl (ci 0, 3, .inl (nF (x.2 8)))), (ad 10, .inl (ci 0, 3, .inl (nF (x.2 9)))), (ad 11, .inl (ci 0, 16, .inl (nF (x.2 10)))), (ad 12, .inl (ci 0, 16, .inl (nF (x.2 11)))), (ad 13, .inl (ci 1, 3, .inl (nF (x.2 12)))), (ad 14, .inl (ci 0, 3, .inl (nF (x.2 13)))), (ad 15, .inl (ci 1, 3, .inl (nF (x.2 14)))), (ad 16, .inl (ci 0, 3, .inl (nF (x.2 15)))), (ad 17, .inl (ci 0, 3, .inl (nF (x.2 16)))), (ad 18, .inl (ci 0, 3, .inl (nF (x.2 17)))), (ad 19, .inl (ci 0, 180, .inl (nF (x.2 18)))), (ad 20, .inl (ci 0, 180, .inl (nF (x.2 19)))), (ad 21, .inl (ci 0, 3, .inl (nF (x.2 20)))), (ad 22, .inl (ci 0, 3, .inl (nF (x.2 21)))), (ad 23, .inl (ci 0, 3, .inl (nF (x.2 22)))), (ad 24, .inl (ci 0, 6, .inl (nF (x.2 23))))] → va_S A9 H0 H locs → W p9 l e9 rm_M_high s9 m9 args9 be9 me9 c9 H locs 0 0 Q9 (F0 m9 64 ls [])) → W p9 l e9 rm_M_high s9 m9 args9 be9 me9 c9 H locs 0 0 Q9 (F0 m9 33 ls []) := by
      intro fu
      induction fu with
      | zero => intro i8 i9 o10 ls H locs hF; rw [fM_high_L33] at hF; cases hF
      | succ fu ih11 =>
        intro i8 i9 o10 ls H locs hF hl hP hD hS k12
        rw [fM_high_L33] at hF
        refine lv_iload_n hx hb d_M_high_33 rfl (lv_at hl 3 rfl) ?_
        refine lv_aload_n hx hb d_M_high_34 rfl (lv_at hl 0 rfl) ?_
        refine va_get (D := D) (ci := 6) (v := .ref (ad 7)) (C := R_M) (T := F_M) (N := 30) hx hb hT in_M hown hK hP 0 rfl rfl 9 (by decide) (hT _ wd_442) (fun _ h9 => h9) rfl d_M_high_35 ?_
        refine lv_iload_n hx hb d_M_high_38 rfl (lv_at hl 1 rfl) ?_
        obtain ⟨b13, hF⟩ := ss_s hF
        refine ln_ald hx hb hK hP 7 0 rfl rfl b13 (by decide) d_M_high_39 ?_
        obtain ⟨b14, hF⟩ := ss_s hF
        obtain ⟨b15, hF⟩ := ss_s hF
        refine ln_icmp_ge hx hb b14 b15 64 d_M_high_40 (by decide) (fun h16 => ?_) (fun h16 => ?_)
        · have hF := it_p hF h16
          obtain rfl := Option.some.inj hF
          have hl := lv_sub hl [0, 1, 2, 3] rfl
          exact k12 _ _ _ hl hP hD hS
        · have hF := it_n hF h16
          refine lv_iload_n hx hb d_M_high_43 rfl (lv_at hl 2 rfl) ?_
          refine lv_aload_n hx hb d_M_high_44 rfl (lv_at hl 0 rfl) ?_
          refine va_get (D := D) (ci := 6) (v := .ref (ad 2)) (C := R_M) (T := F_M) (N := 30) hx hb hT in_M hown hK hP 0 rfl rfl 4 (by decide) (hT _ wd_437) (fun _ h9 => h9) rfl d_M_high_45 ?_
          refine lv_sipush (v := nI 512) hx hb d_M_high_48 (by decide) ?_
          refine lv_iload_n hx hb d_M_high_51 rfl (lv_at hl 1 rfl) ?_
          refine ln_imul hx hb d_M_high_52 ?_
          refine lv_iload_n hx hb d_M_high_53 rfl (lv_at hl 3 rfl) ?_
          refine ln_iadd hx hb d_M_high_54 ?_
          obtain ⟨b17, hF⟩ := ss_s hF
          refine ln_ald hx hb hK hP 2 0 rfl rfl b17 (by decide) d_M_high_55 ?_
          refine ln_iadd hx hb d_M_high_56 ?_
          refine lv_istore_n hx hb d_M_high_57 rfl hl (by decide) rfl (fun ls hl => ?_)
          replace hl : lv_has ls 4 [(2, .int (nI (i8 + ((x.2 1) ((512 * s) + i9))))), (0, .ref (ad 0)), (1, .int (nI s)), (3, .int (nI i9))] := hl
          refine ln_iinc (k := 3) (y := i9 + 1) hx hb d_M_high_58 hl rfl (nI_inc _) (by decide) rfl (fun ls hl => ?_)
          replace hl : lv_has ls 4 [(3, .int (nI (i9 + 1))), (2, .int (nI (i8 + ((x.2 1) ((512 * s) + i9))))), (0, .ref (ad 0)), (1, .int (nI s))] := hl
          refine lv_goto (tgt := 33) hx hb d_M_high_61 (by decide) ?_
          have hl := lv_sub hl [2, 3, 1, 0] rfl
          exact ih11 _ _ _ _ _ _ hF hl hP hD hS k12
    obtain ⟨o10, g19, hF⟩ := ob_s hF
    have hl := lv_sub hl [2, 3, 1, 0] rfl
    refine L18 _ _ _ _ _ _ _ g19 hl hP hD hS (fun ls H locs hl hP hD hS => ?_)
    refine lv_iload_n hx hb d_M_high_64 rfl (lv_at hl 2 rfl) ?_
    obtain rfl := Option.some.inj hF
    exact kR _ _ _ _ d_M_high_65 rfl hP hD hS
  have hF := g7
  refine ln_icmp_ge hx hb b2 b3 24 d_M_high_12 (by decide) (fun h4 => ?_) (fun h4 => ?_)
  · have hF := it_p hF h4
    refine lv_iconst (v := nI 0) hx hb d_M_high_24 (by decide) ?_
    obtain rfl := Option.some.inj hF
    have hl := lv_sub hl [0, 1] rfl
    exact k6 _ _ _ hl hP hD hS
  · have hF := it_n hF h4
    refine lv_aload_n hx hb d_M_high_15 rfl (lv_at hl 0 rfl) ?_
    refine va_get (D := D) (ci := 6) (v := .ref (ad 8)) (C := R_M) (T := F_M) (N := 30) hx hb hT in_M hown hK hP 0 rfl rfl 10 (by decide) (hT _ wd_443) (fun _ h9 => h9) rfl d_M_high_16 ?_
    refine lv_iload_n hx hb d_M_high_19 rfl (lv_at hl 1 rfl) ?_
    refine ln_ald hx hb hK hP 8 0 rfl rfl b1 (by decide) d_M_high_20 ?_
    refine lv_goto (tgt := 25) hx hb d_M_high_21 (by decide) ?_
    obtain rfl := Option.some.inj hF
    have hl := lv_sub hl [0, 1] rfl
    exact k6 _ _ _ hl hP hD hS
def fM_goOn (x : ST) (s : Nat) : Option (ST) := ss (s < 3) (ss (((x.2 0) s) < 2147483648) (ss ((x.1 0) < 2147483648) (ob (α := Nat) (if (x.1 0) ≤ ((x.2 0) s) then ss ((x.1 0) ≤ ((x.2 0) s)) ((some (((x.2 0) s) - (x.1 0)) : Option (Nat))) else (some 0 : Option (Nat))) (fun j5 => ss (((x.2 5) s) < 2147483648) (ss (((x.2 4) s) < 2147483648) ((if ((x.2 4) s) ≤ ((x.2 5) s) then some (sA x 0 (va_up (x.2 0) s j5)) else ss (((512 * s) + ((x.2 5) s)) < 1536) (ss (((x.2 2) ((512 * s) + ((x.2 5) s))) < 2147483648) (ss ((x.1 2) < 2147483648) ((if ¬ ((x.2 2) ((512 * s) + ((x.2 5) s))) = (x.1 2) then some (sA x 0 (va_up (x.2 0) s j5)) else ss (((x.2 6) s) < 2147483648) (ob (α := ST) (if ¬ ((x.2 5) s) = ((x.2 6) s) then (some (sA x 0 (va_up (x.2 0) s j5)) : Option (ST)) else (some (sA (sA (sA (sA x 0 (va_up (x.2 0) s j5)) 6 (va_up (x.2 6) s (((x.2 6) s) + 1))) 7 (va_up (x.2 7) s 0)) 8 (va_up (x.2 8) s (((x.2 8) s) + 1))) : Option (ST))) (fun j18 => some (sA j18 5 (va_up (j18.2 5) s (((j18.2 5) s) + 1))))))))))))))))
abbrev rm_M_goOn : Room := { frames := 0, cells := 0, slots := 0, locals := 0 }
set_option maxHeartbeats 4000000 in
set_option maxRecDepth 100000 in
theorem cM_goOn (l : Launch) (D : va_G) (ci : Nat → ClassId) (ad : Nat → Nat) (x : ST) (s : Nat) (o : ST) (hF : fM_goOn x s = some o) : CtV l y_M_goOn w_M_goOn rm_M_goOn D vwCl (tyC ci) [.ref (ad 0), .int (nI s)] (wM ad ci x) (wM ad ci o) := by
  refine ct_v (cc := b_M_goOn) (maxL := 3) (plainFor_of_name (by decide)) rfl (Nat.le_of_ble_eq_true rfl) (fun p9 e9 s9 m9 args9 be9 me9 c9 A9 Q9 ls H0 hx hb hml hts hown hK hN hl hP hD hS hA kR => ?_)
  replace hl : lv_has ls 3 [(0, .ref (ad 0)), (1, .int (nI s))] := hl
  replace hP : va_P D vwCl [(ad 0, .inr (6, [.int (nI (x.1 0)), .int (nI (x.1 1)), .int (nI (x.1 2)), .ref (ad 1), .ref (ad 2), .ref (ad 3), .ref (ad 4), .ref (ad 5), .ref (ad 6), .ref (ad 7), .ref (ad 8), .ref (ad 9), .ref (ad 10), .int (nI (x.1 13)), .ref (ad 11), .ref (ad 12), .int (nI (x.1 16)), .int (nI (x.1 17)), .ref (ad 13), .ref (ad 14), .ref (ad 15), .ref (ad 16), .ref (ad 17), .ref (ad 18), .ref (ad 19), .ref (ad 20), .ref (ad 21), .ref (ad 22), .ref (ad 23), .ref (ad 24)])), (ad 1, .inl (ci 0, 3, .inl (nF (x.2 0)))), (ad 2, .inl (ci 0, 1536, .inl (nF (x.2 1)))), (ad 3, .inl (ci 0, 1536, .inl (nF (x.2 2)))), (ad 4, .inl (ci 0, 1536, .inl (nF (x.2 3)))), (ad 5, .inl (ci 0, 3, .inl (nF (x.2 4)))), (ad 6, .inl (ci 0, 3, .inl (nF (x.2 5)))), (ad 7, .inl (ci 0, 3, .inl (nF (x.2 6)))), (ad 8, .inl (ci 0, 3, .inl (nF (x.2 7)))), (ad 9, .inl (ci 0, 3, .inl (nF (x.2 8)))), (ad 10, .inl (ci 0, 3, .inl (nF (x.2 9)))), (ad 11, .inl (ci 0, 16, .inl (nF (x.2 10)))), (ad 12, .inl (ci 0, 16, .inl (nF (x.2 11)))), (ad 13, .inl (ci 1, 3, .inl (nF (x.2 12)))), (ad 14, .inl (ci 0, 3, .inl (nF (x.2 13)))), (ad 15, .inl (ci 1, 3, .inl (nF (x.2 14)))), (ad 16, .inl (ci 0, 3, .inl (nF (x.2 15)))), (ad 17, .inl (ci 0, 3, .inl (nF (x.2 16)))), (ad 18, .inl (ci 0, 3, .inl (nF (x.2 17)))), (ad 19, .inl (ci 0, 180, .inl (nF (x.2 18)))), (ad 20, .inl (ci 0, 180, .inl (nF (x.2 19)))), (ad 21, .inl (ci 0, 3, .inl (nF (x.2 20)))), (ad 22, .inl (ci 0, 3, .inl (nF (x.2 21)))), (ad 23, .inl (ci 0, 3, .inl (nF (x.2 22)))), (ad 24, .inl (ci 0, 6, .inl (nF (x.2 23))))] H0 := hP
  replace hD : va_D A9 [(ad 0, .inr (6, [.int (nI (x.1 0)), .int (nI (x.1 1)), .int (nI (x.1 2)), .ref (ad 1), .ref (ad 2), .ref (ad 3), .ref (ad 4), .ref (ad 5), .ref (ad 6), .ref (ad 7), .ref (ad 8), .ref (ad 9), .ref (ad 10), .int (nI (x.1 13)), .ref (ad 11), .ref (ad 12), .int (nI (x.1 16)), .int (nI (x.1 17)), .ref (ad 13), .ref (ad 14), .ref (ad 15), .ref (ad 16), .ref (ad 17), .ref (ad 18), .ref (ad 19), .ref (ad 20), .ref (ad 21), .ref (ad 22), .ref (ad 23), .ref (ad 24)])), (ad 1, .inl (ci 0, 3, .inl (nF (x.2 0)))), (ad 2, .inl (ci 0, 1536, .inl (nF (x.2 1)))), (ad 3, .inl (ci 0, 1536, .inl (nF (x.2 2)))), (ad 4, .inl (ci 0, 1536, .inl (nF (x.2 3)))), (ad 5, .inl (ci 0, 3, .inl (nF (x.2 4)))), (ad 6, .inl (ci 0, 3, .inl (nF (x.2 5)))), (ad 7, .inl (ci 0, 3, .inl (nF (x.2 6)))), (ad 8, .inl (ci 0, 3, .inl (nF (x.2 7)))), (ad 9, .inl (ci 0, 3, .inl (nF (x.2 8)))), (ad 10, .inl (ci 0, 3, .inl (nF (x.2 9)))), (ad 11, .inl (ci 0, 16, .inl (nF (x.2 10)))), (ad 12, .inl (ci 0, 16, .inl (nF (x.2 11)))), (ad 13, .inl (ci 1, 3, .inl (nF (x.2 12)))), (ad 14, .inl (ci 0, 3, .inl (nF (x.2 13)))), (ad 15, .inl (ci 1, 3, .inl (nF (x.2 14)))), (ad 16, .inl (ci 0, 3, .inl (nF (x.2 15)))), (ad 17, .inl (ci 0, 3, .inl (nF (x.2 16)))), (ad 18, .inl (ci 0, 3, .inl (nF (x.2 17)))), (ad 19, .inl (ci 0, 180, .inl (nF (x.2 18)))), (ad 20, .inl (ci 0, 180, .inl (nF (x.2 19)))), (ad 21, .inl (ci 0, 3, .inl (nF (x.2 20)))), (ad 22, .inl (ci 0, 3, .inl (nF (x.2 21)))), (ad 23, .inl (ci 0, 3, .inl (nF (x.2 22)))), (ad 24, .inl (ci 0, 6, .inl (nF (x.2 23))))] := hD
  replace hown : s9.vm.findClass R_M = some m9.cls := hown
  have hT : ∀ w ∈ lw_ok, w.before args9 s9 = true := fun w h => hts w (List.mem_cons_of_mem _ h)
  rw [fM_goOn] at hF
  generalize hH : H0 = H at hP ⊢
  replace hS : va_S A9 H0 H [] := by rw [← hH]; exact hS
  clear hH
  generalize ([] : List Loc) = locs at hS ⊢
  refine lv_aload_n hx hb d_M_goOn_0 rfl (lv_at hl 0 rfl) ?_
  refine va_get (D := D) (ci := 6) (v := .ref (ad 1)) (C := R_M) (T := F_M) (N := 30) hx hb hT in_M hown hK hP 0 rfl rfl 3 (by decide) (hT _ wd_436) (fun _ h9 => h9) rfl d_M_goOn_1 ?_
  refine lv_iload_n hx hb d_M_goOn_4 rfl (lv_at hl 1 rfl) ?_
  refine lv_aload_n hx hb d_M_goOn_5 rfl (lv_at hl 0 rfl) ?_
  refine va_get (D := D) (ci := 6) (v := .ref (ad 1)) (C := R_M) (T := F_M) (N := 30) hx hb hT in_M hown hK hP 0 rfl rfl 3 (by decide) (hT _ wd_436) (fun _ h9 => h9) rfl d_M_goOn_6 ?_
  refine lv_iload_n hx hb d_M_goOn_9 rfl (lv_at hl 1 rfl) ?_
  obtain ⟨b1, hF⟩ := ss_s hF
  refine ln_ald hx hb hK hP 1 0 rfl rfl b1 (by decide) d_M_goOn_10 ?_
  refine lv_aload_n hx hb d_M_goOn_11 rfl (lv_at hl 0 rfl) ?_
  refine va_get (D := D) (ci := 6) (v := .int (nI (x.1 0))) (C := R_M) (T := F_M) (N := 30) hx hb hT in_M hown hK hP 0 rfl rfl 0 (by decide) (hT _ wd_433) (fun _ h9 => h9) rfl d_M_goOn_12 ?_
  obtain ⟨b2, hF⟩ := ss_s hF
  obtain ⟨b3, hF⟩ := ss_s hF
  obtain ⟨j5, g8, hF⟩ := ob_s hF
  have k6 : ∀ (ls : Array Slot) (H : Heap) (locs : List Loc), lv_has ls 3 [(0, .ref (ad 0)), (1, .int (nI s))] → va_P D vwCl [(ad 0, .inr (6, [.int (nI (x.1 0)), .int (nI (x.1 1)), .int (nI (x.1 2)), .ref (ad 1), .ref (ad 2), .ref (ad 3), .ref (ad 4), .ref (ad 5), .ref (ad 6), .ref (ad 7), .ref (ad 8), .ref (ad 9), .ref (ad 10), .int (nI (x.1 13)), .ref (ad 11), .ref (ad 12), .int (nI (x.1 16)), .int (nI (x.1 17)), .ref (ad 13), .ref (ad 14), .ref (ad 15), .ref (ad 16), .ref (ad 17), .ref (ad 18), .ref (ad 19), .ref (ad 20), .ref (ad 21), .ref (ad 22), .ref (ad 23), .ref (ad 24)])), (ad 1, .inl (ci 0, 3, .inl (nF (x.2 0)))), (ad 2, .inl (ci 0, 1536, .inl (nF (x.2 1)))), (ad 3, .inl (ci 0, 1536, .inl (nF (x.2 2)))), (ad 4, .inl (ci 0, 1536, .inl (nF (x.2 3)))), (ad 5, .inl (ci 0, 3, .inl (nF (x.2 4)))), (ad 6, .inl (ci 0, 3, .inl (nF (x.2 5)))), (ad 7, .inl (ci 0, 3, .inl (nF (x.2 6)))), (ad 8, .inl (ci 0, 3, .inl (nF (x.2 7)))), (ad 9, .inl (ci 0, 3, .inl (nF (x.2 8)))), (ad 10, .inl (ci 0, 3, .inl (nF (x.2 9)))), (ad 11, .inl (ci 0, 16, .inl (nF (x.2 10)))), (ad 12, .inl (ci 0, 16, .inl (nF (x.2 11)))), (ad 13, .inl (ci 1, 3, .inl (nF (x.2 12)))), (ad 14, .inl (ci 0, 3, .inl (nF (x.2 13)))), (ad 15, .inl (ci 1, 3, .inl (nF (x.2 14)))), (ad 16, .inl (ci 0, 3, .inl (nF (x.2 15)))), (ad 17, .inl (ci 0, 3, .inl (nF (x.2 16)))), (ad 18, .inl (ci 0, 3, .inl (nF (x.2 17)))), (ad 19, .inl (ci 0, 180, .inl (nF (x.2 18)))), (ad 20, .inl (ci 0, 180, .inl (nF (x.2 19)))), (ad 21, .inl (ci 0, 3, .inl (nF (x.2 20)))), (ad 22, .inl (ci 0, 3, .inl (nF (x.2 21)))), (ad 23, .inl (ci 0, 3, .inl (nF (x.2 22)))), (ad 24, .inl (ci 0, 6, .inl (nF (x.2 23))))] H → va_D A9 [(ad 0, .inr (6, [.int (nI (x.1 0)), .int (nI (x.1 1)), .int (nI (x.1 2)), .ref (ad 1), .ref (ad 2), .ref (ad 3), .ref (ad 4), .ref (ad 5), .ref (ad 6), .ref (ad 7), .ref (ad 8), .ref (ad 9), .ref (ad 10), .int (nI (x.1 13)), .ref (ad 11), .ref (ad 12), .int (nI (x.1 16)), .int (nI (x.1 17)), .ref (ad 13), .ref (ad 14), .ref (ad 15), .ref (ad 16), .ref (ad 17), .ref (ad 18), .ref (ad 19), .ref (ad 20), .ref (ad 21), .ref (ad 22), .ref (ad 23), .ref (ad 24)])), (ad 1, .inl (ci 0, 3, .inl (nF (x.2 0)))), (ad 2, .inl (ci 0, 1536, .inl (nF (x.2 1)))), (ad 3, .inl (ci 0, 1536, .inl (nF (x.2 2)))), (ad 4, .inl (ci 0, 1536, .inl (nF (x.2 3)))), (ad 5, .inl (ci 0, 3, .inl (nF (x.2 4)))), (ad 6, .inl (ci 0, 3, .inl (nF (x.2 5)))), (ad 7, .inl (ci 0, 3, .inl (nF (x.2 6)))), (ad 8, .inl (ci 0, 3, .inl (nF (x.2 7)))), (ad 9, .inl (ci 0, 3, .inl (nF (x.2 8)))), (ad 10, .inl (ci 0, 3, .inl (nF (x.2 9)))), (ad 11, .inl (ci 0, 16, .inl (nF (x.2 10)))), (ad 12, .inl (ci 0, 16, .inl (nF (x.2 11)))), (ad 13, .inl (ci 1, 3, .inl (nF (x.2 12)))), (ad 14, .inl (ci 0, 3, .inl (nF (x.2 13)))), (ad 15, .inl (ci 1, 3, .inl (nF (x.2 14)))), (ad 16, .inl (ci 0, 3, .inl (nF (x.2 15)))), (ad 17, .inl (ci 0, 3, .inl (nF (x.2 16)))), (ad 18, .inl (ci 0, 3, .inl (nF (x.2 17)))), (ad 19, .inl (ci 0, 180, .inl (nF (x.2 18)))), (ad 20, .inl (ci 0, 180, .inl (nF (x.2 19)))), (ad 21, .inl (ci 0, 3, .inl (nF (x.2 20)))), (ad 22, .inl (ci 0, 3, .inl (nF (x.2 21)))), (ad 23, .inl (ci 0, 3, .inl (nF (x.2 22)))), (ad 24, .inl (ci 0, 6, .inl (nF (x.2 23))))] → va_S A9 H0 H locs → W p9 l e9 rm_M_goOn s9 m9 args9 be9 me9 c9 H locs 0 0 Q9 (F0 m9 33 ls [.int (nI j5), .int (nI s), .ref (ad 1)]) := by
    intro ls H locs hl hP hD hS
    refine ln_ast hx hb hK hP hD hS 1 0 rfl rfl b1 (by decide) d_M_goOn_33 (fun H locs hP hD hS => ?_)
    replace hP : va_P D vwCl [(ad 0, .inr (6, [.int (nI (x.1 0)), .int (nI (x.1 1)), .int (nI (x.1 2)), .ref (ad 1), .ref (ad 2), .ref (ad 3), .ref (ad 4), .ref (ad 5), .ref (ad 6), .ref (ad 7), .ref (ad 8), .ref (ad 9), .ref (ad 10), .int (nI (x.1 13)), .ref (ad 11), .ref (ad 12), .int (nI (x.1 16)), .int (nI (x.1 17)), .ref (ad 13), .ref (ad 14), .ref (ad 15), .ref (ad 16), .ref (ad 17), .ref (ad 18), .ref (ad 19), .ref (ad 20), .ref (ad 21), .ref (ad 22), .ref (ad 23), .ref (ad 24)])), (ad 1, .inl (ci 0, 3, .inl (nF (va_up (x.2 0) s j5)))), (ad 2, .inl (ci 0, 1536, .inl (nF (x.2 1)))), (ad 3, .inl (ci 0, 1536, .inl (nF (x.2 2)))), (ad 4, .inl (ci 0, 1536, .inl (nF (x.2 3)))), (ad 5, .inl (ci 0, 3, .inl (nF (x.2 4)))), (ad 6, .inl (ci 0, 3, .inl (nF (x.2 5)))), (ad 7, .inl (ci 0, 3, .inl (nF (x.2 6)))), (ad 8, .inl (ci 0, 3, .inl (nF (x.2 7)))), (ad 9, .inl (ci 0, 3, .inl (nF (x.2 8)))), (ad 10, .inl (ci 0, 3, .inl (nF (x.2 9)))), (ad 11, .inl (ci 0, 16, .inl (nF (x.2 10)))), (ad 12, .inl (ci 0, 16, .inl (nF (x.2 11)))), (ad 13, .inl (ci 1, 3, .inl (nF (x.2 12)))), (ad 14, .inl (ci 0, 3, .inl (nF (x.2 13)))), (ad 15, .inl (ci 1, 3, .inl (nF (x.2 14)))), (ad 16, .inl (ci 0, 3, .inl (nF (x.2 15)))), (ad 17, .inl (ci 0, 3, .inl (nF (x.2 16)))), (ad 18, .inl (ci 0, 3, .inl (nF (x.2 17)))), (ad 19, .inl (ci 0, 180, .inl (nF (x.2 18)))), (ad 20, .inl (ci 0, 180, .inl (nF (x.2 19)))), (ad 21, .inl (ci 0, 3, .inl (nF (x.2 20)))), (ad 22, .inl (ci 0, 3, .inl (nF (x.2 21)))), (ad 23, .inl (ci 0, 3, .inl (nF (x.2 22)))), (ad 24, .inl (ci 0, 6, .inl (nF (x.2 23))))] H := hP
    replace hD : va_D A9 [(ad 0, .inr (6, [.int (nI (x.1 0)), .int (nI (x.1 1)), .int (nI (x.1 2)), .ref (ad 1), .ref (ad 2), .ref (ad 3), .ref (ad 4), .ref (ad 5), .ref (ad 6), .ref (ad 7), .ref (ad 8), .ref (ad 9), .ref (ad 10), .int (nI (x.1 13)), .ref (ad 11), .ref (ad 12), .int (nI (x.1 16)), .int (nI (x.1 17)), .ref (ad 13), .ref (ad 14), .ref (ad 15), .ref (ad 16), .ref (ad 17), .ref (ad 18), .ref (ad 19), .ref (ad 20), .ref (ad 21), .ref (ad 22), .ref (ad 23), .ref (ad 24)])), (ad 1, .inl (ci 0, 3, .inl (nF (va_up (x.2 0) s j5)))), (ad 2, .inl (ci 0, 1536, .inl (nF (x.2 1)))), (ad 3, .inl (ci 0, 1536, .inl (nF (x.2 2)))), (ad 4, .inl (ci 0, 1536, .inl (nF (x.2 3)))), (ad 5, .inl (ci 0, 3, .inl (nF (x.2 4)))), (ad 6, .inl (ci 0, 3, .inl (nF (x.2 5)))), (ad 7, .inl (ci 0, 3, .inl (nF (x.2 6)))), (ad 8, .inl (ci 0, 3, .inl (nF (x.2 7)))), (ad 9, .inl (ci 0, 3, .inl (nF (x.2 8)))), (ad 10, .inl (ci 0, 3, .inl (nF (x.2 9)))), (ad 11, .inl (ci 0, 16, .inl (nF (x.2 10)))), (ad 12, .inl (ci 0, 16, .inl (nF (x.2 11)))), (ad 13, .inl (ci 1, 3, .inl (nF (x.2 12)))), (ad 14, .inl (ci 0, 3, .inl (nF (x.2 13)))), (ad 15, .inl (ci 1, 3, .inl (nF (x.2 14)))), (ad 16, .inl (ci 0, 3, .inl (nF (x.2 15)))), (ad 17, .inl (ci 0, 3, .inl (nF (x.2 16)))), (ad 18, .inl (ci 0, 3, .inl (nF (x.2 17)))), (ad 19, .inl (ci 0, 180, .inl (nF (x.2 18)))), (ad 20, .inl (ci 0, 180, .inl (nF (x.2 19)))), (ad 21, .inl (ci 0, 3, .inl (nF (x.2 20)))), (ad 22, .inl (ci 0, 3, .inl (nF (x.2 21)))), (ad 23, .inl (ci 0, 3, .inl (nF (x.2 22)))), (ad 24, .inl (ci 0, 6, .inl (nF (x.2 23))))] := hD
    refine lv_sipush (v := nI 512) hx hb d_M_goOn_34 (by decide) ?_
    refine lv_iload_n hx hb d_M_goOn_37 rfl (lv_at hl 1 rfl) ?_
    refine ln_imul hx hb d_M_goOn_38 ?_
    refine lv_aload_n hx hb d_M_goOn_39 rfl (lv_at hl 0 rfl) ?_
    refine va_get (D := D) (ci := 6) (v := .ref (ad 6)) (C := R_M) (T := F_M) (N := 30) hx hb hT in_M hown hK hP 0 rfl rfl 8 (by decide) (hT _ wd_441) (fun _ h9 => h9) rfl d_M_goOn_40 ?_
    refine lv_iload_n hx hb d_M_goOn_43 rfl (lv_at hl 1 rfl) ?_
    refine ln_ald hx hb hK hP 6 0 rfl rfl b1 (by decide) d_M_goOn_44 ?_
    refine ln_iadd hx hb d_M_goOn_45 ?_
    refine lv_istore_n hx hb d_M_goOn_46 rfl hl (by decide) rfl (fun ls hl => ?_)
    replace hl : lv_has ls 3 [(2, .int (nI ((512 * s) + ((x.2 5) s)))), (0, .ref (ad 0)), (1, .int (nI s))] := hl
    refine lv_aload_n hx hb d_M_goOn_47 rfl (lv_at hl 1 rfl) ?_
    refine va_get (D := D) (ci := 6) (v := .ref (ad 6)) (C := R_M) (T := F_M) (N := 30) hx hb hT in_M hown hK hP 0 rfl rfl 8 (by decide) (hT _ wd_441) (fun _ h9 => h9) rfl d_M_goOn_48 ?_
    refine lv_iload_n hx hb d_M_goOn_51 rfl (lv_at hl 2 rfl) ?_
    refine ln_ald hx hb hK hP 6 0 rfl rfl b1 (by decide) d_M_goOn_52 ?_
    refine lv_aload_n hx hb d_M_goOn_53 rfl (lv_at hl 1 rfl) ?_
    refine va_get (D := D) (ci := 6) (v := .ref (ad 5)) (C := R_M) (T := F_M) (N := 30) hx hb hT in_M hown hK hP 0 rfl rfl 7 (by decide) (hT _ wd_440) (fun _ h9 => h9) rfl d_M_goOn_54 ?_
    refine lv_iload_n hx hb d_M_goOn_57 rfl (lv_at hl 2 rfl) ?_
    refine ln_ald hx hb hK hP 5 0 rfl rfl b1 (by decide) d_M_goOn_58 ?_
    obtain ⟨b9, hF⟩ := ss_s hF
    obtain ⟨b10, hF⟩ := ss_s hF
    refine ln_icmp_ge hx hb b9 b10 127 d_M_goOn_59 (by decide) (fun h11 => ?_) (fun h11 => ?_)
    · have hF := it_p hF h11
      obtain rfl := Option.some.inj hF
      exact kR _ _ _ _ d_M_goOn_127 hP hD hS
    · have hF := it_n hF h11
      refine lv_aload_n hx hb d_M_goOn_62 rfl (lv_at hl 1 rfl) ?_
      refine va_get (D := D) (ci := 6) (v := .ref (ad 3)) (C := R_M) (T := F_M) (N := 30) hx hb hT in_M hown hK hP 0 rfl rfl 5 (by decide) (hT _ wd_438) (fun _ h9 => h9) rfl d_M_goOn_63 ?_
      refine lv_iload_n hx hb d_M_goOn_66 rfl (lv_at hl 0 rfl) ?_
      obtain ⟨b12, hF⟩ := ss_s hF
      refine ln_ald hx hb hK hP 3 0 rfl rfl b12 (by decide) d_M_goOn_67 ?_
      refine lv_aload_n hx hb d_M_goOn_68 rfl (lv_at hl 1 rfl) ?_
      refine va_get (D := D) (ci := 6) (v := .int (nI (x.1 2))) (C := R_M) (T := F_M) (N := 30) hx hb hT in_M hown hK hP 0 rfl rfl 2 (by decide) (hT _ wd_435) (fun _ h9 => h9) rfl d_M_goOn_69 ?_
      obtain ⟨b13, hF⟩ := ss_s hF
      obtain ⟨b14, hF⟩ := ss_s hF
      refine ln_icmp_ne hx hb b13 b14 127 d_M_goOn_72 (by decide) (fun h15 => ?_) (fun h15 => ?_)
      · have hF := it_p hF h15
        obtain rfl := Option.some.inj hF
        exact kR _ _ _ _ d_M_goOn_127 hP hD hS
      · have hF := it_n hF h15
        refine lv_aload_n hx hb d_M_goOn_75 rfl (lv_at hl 1 rfl) ?_
        refine va_get (D := D) (ci := 6) (v := .ref (ad 6)) (C := R_M) (T := F_M) (N := 30) hx hb hT in_M hown hK hP 0 rfl rfl 8 (by decide) (hT _ wd_441) (fun _ h9 => h9) rfl d_M_goOn_76 ?_
        refine lv_iload_n hx hb d_M_goOn_79 rfl (lv_at hl 2 rfl) ?_
        refine ln_ald hx hb hK hP 6 0 rfl rfl b1 (by decide) d_M_goOn_80 ?_
        refine lv_aload_n hx hb d_M_goOn_81 rfl (lv_at hl 1 rfl) ?_
        refine va_get (D := D) (ci := 6) (v := .ref (ad 7)) (C := R_M) (T := F_M) (N := 30) hx hb hT in_M hown hK hP 0 rfl rfl 9 (by decide) (hT _ wd_442) (fun _ h9 => h9) rfl d_M_goOn_82 ?_
        refine lv_iload_n hx hb d_M_goOn_85 rfl (lv_at hl 2 rfl) ?_
        refine ln_ald hx hb hK hP 7 0 rfl rfl b1 (by decide) d_M_goOn_86 ?_
        obtain ⟨b16, hF⟩ := ss_s hF
        obtain ⟨j18, g20, hF⟩ := ob_s hF
        have k19 : ∀ (ls : Array Slot) (H : Heap) (locs : List Loc), lv_has ls 3 [(0, .ref (ad 0)), (1, .int (nI s)), (2, .int (nI ((512 * s) + ((x.2 5) s))))] → va_P D vwCl [(ad 0, .inr (6, [.int (nI (j18.1 0)), .int (nI (j18.1 1)), .int (nI (j18.1 2)), .ref (ad 1), .ref (ad 2), .ref (ad 3), .ref (ad 4), .ref (ad 5), .ref (ad 6), .ref (ad 7), .ref (ad 8), .ref (ad 9), .ref (ad 10), .int (nI (j18.1 13)), .ref (ad 11), .ref (ad 12), .int (nI (j18.1 16)), .int (nI (j18.1 17)), .ref (ad 13), .ref (ad 14), .ref (ad 15), .ref (ad 16), .ref (ad 17), .ref (ad 18), .ref (ad 19), .ref (ad 20), .ref (ad 21), .ref (ad 22), .ref (ad 23), .ref (ad 24)])), (ad 1, .inl (ci 0, 3, .inl (nF (j18.2 0)))), (ad 2, .inl (ci 0, 1536, .inl (nF (j18.2 1)))), (ad 3, .inl (ci 0, 1536, .inl (nF (j18.2 2)))), (ad 4, .inl (ci 0, 1536, .inl (nF (j18.2 3)))), (ad 5, .inl (ci 0, 3, .inl (nF (j18.2 4)))), (ad 6, .inl (ci 0, 3, .inl (nF (j18.2 5)))), (ad 7, .inl (ci 0, 3, .inl (nF (j18.2 6)))), (ad 8, .inl (ci 0, 3, .inl (nF (j18.2 7)))), (ad 9, .inl (ci 0, 3, .inl (nF (j18.2 8)))), (ad 10, .inl (ci 0, 3, .inl (nF (j18.2 9)))), (ad 11, .inl (ci 0, 16, .inl (nF (j18.2 10)))), (ad 12, .inl (ci 0, 16, .inl (nF (j18.2 11)))), (ad 13, .inl (ci 1, 3, .inl (nF (j18.2 12)))), (ad 14, .inl (ci 0, 3, .inl (nF (j18.2 13)))), (ad 15, .inl (ci 1, 3, .inl (nF (j18.2 14)))), (ad 16, .inl (ci 0, 3, .inl (nF (j18.2 15)))), (ad 17, .inl (ci 0, 3, .inl (nF (j18.2 16)))), (ad 18, .inl (ci 0, 3, .inl (nF (j18.2 17)))), (ad 19, .inl (ci 0, 180, .inl (nF (j18.2 18)))), (ad 20, .inl (ci 0, 180, .inl (nF (j18.2 19)))), (ad 21, .inl (ci 0, 3, .inl (nF (j18.2 20)))), (ad 22, .inl (ci 0, 3, .inl (nF (j18.2 21)))), (ad 23, .inl (ci 0, 3, .inl (nF (j18.2 22)))), (ad 24, .inl (ci 0, 6, .inl (nF (j18.2 23))))] H → va_D A9 [(ad 0, .inr (6, [.int (nI (j18.1 0)), .int (nI (j18.1 1)), .int (nI (j18.1 2)), .ref (ad 1), .ref (ad 2), .ref (ad 3), .ref (ad 4), .ref (ad 5), .ref (ad 6), .ref (ad 7), .ref (ad 8), .ref (ad 9), .ref (ad 10), .int (nI (j18.1 13)), .ref (ad 11), .ref (ad 12), .int (nI (j18.1 16)), .int (nI (j18.1 17)), .ref (ad 13), .ref (ad 14), .ref (ad 15), .ref (ad 16), .ref (ad 17), .ref (ad 18), .ref (ad 19), .ref (ad 20), .ref (ad 21), .ref (ad 22), .ref (ad 23), .ref (ad 24)])), (ad 1, .inl (ci 0, 3, .inl (nF (j18.2 0)))), (ad 2, .inl (ci 0, 1536, .inl (nF (j18.2 1)))), (ad 3, .inl (ci 0, 1536, .inl (nF (j18.2 2)))), (ad 4, .inl (ci 0, 1536, .inl (nF (j18.2 3)))), (ad 5, .inl (ci 0, 3, .inl (nF (j18.2 4)))), (ad 6, .inl (ci 0, 3, .inl (nF (j18.2 5)))), (ad 7, .inl (ci 0, 3, .inl (nF (j18.2 6)))), (ad 8, .inl (ci 0, 3, .inl (nF (j18.2 7)))), (ad 9, .inl (ci 0, 3, .inl (nF (j18.2 8)))), (ad 10, .inl (ci 0, 3, .inl (nF (j18.2 9)))), (ad 11, .inl (ci 0, 16, .inl (nF (j18.2 10)))), (ad 12, .inl (ci 0, 16, .inl (nF (j18.2 11)))), (ad 13, .inl (ci 1, 3, .inl (nF (j18.2 12)))), (ad 14, .inl (ci 0, 3, .inl (nF (j18.2 13)))), (ad 15, .inl (ci 1, 3, .inl (nF (j18.2 14)))), (ad 16, .inl (ci 0, 3, .inl (nF (j18.2 15)))), (ad 17, .inl (ci 0, 3, .inl (nF (j18.2 16)))), (ad 18, .inl (ci 0, 3, .inl (nF (j18.2 17)))), (ad 19, .inl (ci 0, 180, .inl (nF (j18.2 18)))), (ad 20, .inl (ci 0, 180, .inl (nF (j18.2 19)))), (ad 21, .inl (ci 0, 3, .inl (nF (j18.2 20)))), (ad 22, .inl (ci 0, 3, .inl (nF (j18.2 21)))), (ad 23, .inl (ci 0, 3, .inl (nF (j18.2 22)))), (ad 24, .inl (ci 0, 6, .inl (nF (j18.2 23))))] → va_S A9 H0 H locs → W p9 l e9 rm_M_goOn s9 m9 args9 be9 me9 c9 H locs 0 0 Q9 (F0 m9 117 ls []) := by
          intro ls H locs hl hP hD hS
          refine lv_aload_n hx hb d_M_goOn_117 rfl (lv_at hl 0 rfl) ?_
          refine va_get (D := D) (ci := 6) (v := .ref (ad 6)) (C := R_M) (T := F_M) (N := 30) hx hb hT in_M hown hK hP 0 rfl rfl 8 (by decide) (hT _ wd_441) (fun _ h9 => h9) rfl d_M_goOn_118 ?_
          refine lv_iload_n hx hb d_M_goOn_121 rfl (lv_at hl 1 rfl) ?_
          refine lv_dup2_11 hx hb d_M_goOn_122 rfl rfl ?_
          refine ln_ald hx hb hK hP 6 0 rfl rfl b1 (by decide) d_M_goOn_123 ?_
          refine lv_iconst (v := nI 1) hx hb d_M_goOn_124 (by decide) ?_
          refine ln_iadd hx hb d_M_goOn_125 ?_
          refine ln_ast hx hb hK hP hD hS 6 0 rfl rfl b1 (by decide) d_M_goOn_126 (fun H locs hP hD hS => ?_)
          replace hP : va_P D vwCl [(ad 0, .inr (6, [.int (nI (j18.1 0)), .int (nI (j18.1 1)), .int (nI (j18.1 2)), .ref (ad 1), .ref (ad 2), .ref (ad 3), .ref (ad 4), .ref (ad 5), .ref (ad 6), .ref (ad 7), .ref (ad 8), .ref (ad 9), .ref (ad 10), .int (nI (j18.1 13)), .ref (ad 11), .ref (ad 12), .int (nI (j18.1 16)), .int (nI (j18.1 17)), .ref (ad 13), .ref (ad 14), .ref (ad 15), .ref (ad 16), .ref (ad 17), .ref (ad 18), .ref (ad 19), .ref (ad 20), .ref (ad 21), .ref (ad 22), .ref (ad 23), .ref (ad 24)])), (ad 1, .inl (ci 0, 3, .inl (nF (j18.2 0)))), (ad 2, .inl (ci 0, 1536, .inl (nF (j18.2 1)))), (ad 3, .inl (ci 0, 1536, .inl (nF (j18.2 2)))), (ad 4, .inl (ci 0, 1536, .inl (nF (j18.2 3)))), (ad 5, .inl (ci 0, 3, .inl (nF (j18.2 4)))), (ad 6, .inl (ci 0, 3, .inl (nF (va_up (j18.2 5) s (((j18.2 5) s) + 1))))), (ad 7, .inl (ci 0, 3, .inl (nF (j18.2 6)))), (ad 8, .inl (ci 0, 3, .inl (nF (j18.2 7)))), (ad 9, .inl (ci 0, 3, .inl (nF (j18.2 8)))), (ad 10, .inl (ci 0, 3, .inl (nF (j18.2 9)))), (ad 11, .inl (ci 0, 16, .inl (nF (j18.2 10)))), (ad 12, .inl (ci 0, 16, .inl (nF (j18.2 11)))), (ad 13, .inl (ci 1, 3, .inl (nF (j18.2 12)))), (ad 14, .inl (ci 0, 3, .inl (nF (j18.2 13)))), (ad 15, .inl (ci 1, 3, .inl (nF (j18.2 14)))), (ad 16, .inl (ci 0, 3, .inl (nF (j18.2 15)))), (ad 17, .inl (ci 0, 3, .inl (nF (j18.2 16)))), (ad 18, .inl (ci 0, 3, .inl (nF (j18.2 17)))), (ad 19, .inl (ci 0, 180, .inl (nF (j18.2 18)))), (ad 20, .inl (ci 0, 180, .inl (nF (j18.2 19)))), (ad 21, .inl (ci 0, 3, .inl (nF (j18.2 20)))), (ad 22, .inl (ci 0, 3, .inl (nF (j18.2 21)))), (ad 23, .inl (ci 0, 3, .inl (nF (j18.2 22)))), (ad 24, .inl (ci 0, 6, .inl (nF (j18.2 23))))] H := hP
          replace hD : va_D A9 [(ad 0, .inr (6, [.int (nI (j18.1 0)), .int (nI (j18.1 1)), .int (nI (j18.1 2)), .ref (ad 1), .ref (ad 2), .ref (ad 3), .ref (ad 4), .ref (ad 5), .ref (ad 6), .ref (ad 7), .ref (ad 8), .ref (ad 9), .ref (ad 10), .int (nI (j18.1 13)), .ref (ad 11), .ref (ad 12), .int (nI (j18.1 16)), .int (nI (j18.1 17)), .ref (ad 13), .ref (ad 14), .ref (ad 15), .ref (ad 16), .ref (ad 17), .ref (ad 18), .ref (ad 19), .ref (ad 20), .ref (ad 21), .ref (ad 22), .ref (ad 23), .ref (ad 24)])), (ad 1, .inl (ci 0, 3, .inl (nF (j18.2 0)))), (ad 2, .inl (ci 0, 1536, .inl (nF (j18.2 1)))), (ad 3, .inl (ci 0, 1536, .inl (nF (j18.2 2)))), (ad 4, .inl (ci 0, 1536, .inl (nF (j18.2 3)))), (ad 5, .inl (ci 0, 3, .inl (nF (j18.2 4)))), (ad 6, .inl (ci 0, 3, .inl (nF (va_up (j18.2 5) s (((j18.2 5) s) + 1))))), (ad 7, .inl (ci 0, 3, .inl (nF (j18.2 6)))), (ad 8, .inl (ci 0, 3, .inl (nF (j18.2 7)))), (ad 9, .inl (ci 0, 3, .inl (nF (j18.2 8)))), (ad 10, .inl (ci 0, 3, .inl (nF (j18.2 9)))), (ad 11, .inl (ci 0, 16, .inl (nF (j18.2 10)))), (ad 12, .inl (ci 0, 16, .inl (nF (j18.2 11)))), (ad 13, .inl (ci 1, 3, .inl (nF (j18.2 12)))), (ad 14, .inl (ci 0, 3, .inl (nF (j18.2 13)))), (ad 15, .inl (ci 1, 3, .inl (nF (j18.2 14)))), (ad 16, .inl (ci 0, 3, .inl (nF (j18.2 15)))), (ad 17, .inl (ci 0, 3, .inl (nF (j18.2 16)))), (ad 18, .inl (ci 0, 3, .inl (nF (j18.2 17)))), (ad 19, .inl (ci 0, 180, .inl (nF (j18.2 18)))), (ad 20, .inl (ci 0, 180, .inl (nF (j18.2 19)))), (ad 21, .inl (ci 0, 3, .inl (nF (j18.2 20)))), (ad 22, .inl (ci 0, 3, .inl (nF (j18.2 21)))), (ad 23, .inl (ci 0, 3, .inl (nF (j18.2 22)))), (ad 24, .inl (ci 0, 6, .inl (nF (j18.2 23))))] := hD
          obtain rfl := Option.some.inj hF
          exact kR _ _ _ _ d_M_goOn_127 hP hD hS
        have hF := g20
        refine ln_icmp_ne hx hb b9 b16 117 d_M_goOn_87 (by decide) (fun h17 => ?_) (fun h17 => ?_)
        · have hF := it_p hF h17
          obtain rfl := Option.some.inj hF
          have hl := lv_sub hl [1, 2, 0] rfl
          exact k19 _ _ _ hl hP hD hS
        · have hF := it_n hF h17
          refine lv_aload_n hx hb d_M_goOn_90 rfl (lv_at hl 1 rfl) ?_
          refine va_get (D := D) (ci := 6) (v := .ref (ad 9)) (C := R_M) (T := F_M) (N := 30) hx hb hT in_M hown hK hP 0 rfl rfl 11 (by decide) (hT _ wd_444) (fun _ h9 => h9) rfl d_M_goOn_91 ?_
          refine lv_iload_n hx hb d_M_goOn_94 rfl (lv_at hl 2 rfl) ?_
          refine lv_dup2_11 hx hb d_M_goOn_95 rfl rfl ?_
          refine ln_ald hx hb hK hP 9 0 rfl rfl b1 (by decide) d_M_goOn_96 ?_
          refine lv_iconst (v := nI 1) hx hb d_M_goOn_97 (by decide) ?_
          refine ln_iadd hx hb d_M_goOn_98 ?_
          refine ln_ast hx hb hK hP hD hS 9 0 rfl rfl b1 (by decide) d_M_goOn_99 (fun H locs hP hD hS => ?_)
          replace hP : va_P D vwCl [(ad 0, .inr (6, [.int (nI (x.1 0)), .int (nI (x.1 1)), .int (nI (x.1 2)), .ref (ad 1), .ref (ad 2), .ref (ad 3), .ref (ad 4), .ref (ad 5), .ref (ad 6), .ref (ad 7), .ref (ad 8), .ref (ad 9), .ref (ad 10), .int (nI (x.1 13)), .ref (ad 11), .ref (ad 12), .int (nI (x.1 16)), .int (nI (x.1 17)), .ref (ad 13), .ref (ad 14), .ref (ad 15), .ref (ad 16), .ref (ad 17), .ref (ad 18), .ref (ad 19), .ref (ad 20), .ref (ad 21), .ref (ad 22), .ref (ad 23), .ref (ad 24)])), (ad 1, .inl (ci 0, 3, .inl (nF (va_up (x.2 0) s j5)))), (ad 2, .inl (ci 0, 1536, .inl (nF (x.2 1)))), (ad 3, .inl (ci 0, 1536, .inl (nF (x.2 2)))), (ad 4, .inl (ci 0, 1536, .inl (nF (x.2 3)))), (ad 5, .inl (ci 0, 3, .inl (nF (x.2 4)))), (ad 6, .inl (ci 0, 3, .inl (nF (x.2 5)))), (ad 7, .inl (ci 0, 3, .inl (nF (x.2 6)))), (ad 8, .inl (ci 0, 3, .inl (nF (x.2 7)))), (ad 9, .inl (ci 0, 3, .inl (nF (va_up (x.2 8) s (((x.2 8) s) + 1))))), (ad 10, .inl (ci 0, 3, .inl (nF (x.2 9)))), (ad 11, .inl (ci 0, 16, .inl (nF (x.2 10)))), (ad 12, .inl (ci 0, 16, .inl (nF (x.2 11)))), (ad 13, .inl (ci 1, 3, .inl (nF (x.2 12)))), (ad 14, .inl (ci 0, 3, .inl (nF (x.2 13)))), (ad 15, .inl (ci 1, 3, .inl (nF (x.2 14)))), (ad 16, .inl (ci 0, 3, .inl (nF (x.2 15)))), (ad 17, .inl (ci 0, 3, .inl (nF (x.2 16)))), (ad 18, .inl (ci 0, 3, .inl (nF (x.2 17)))), (ad 19, .inl (ci 0, 180, .inl (nF (x.2 18)))), (ad 20, .inl (ci 0, 180, .inl (nF (x.2 19)))), (ad 21, .inl (ci 0, 3, .inl (nF (x.2 20)))), (ad 22, .inl (ci 0, 3, .inl (nF (x.2 21)))), (ad 23, .inl (ci 0, 3, .inl (nF (x.2 22)))), (ad 24, .inl (ci 0, 6, .inl (nF (x.2 23))))] H := hP
          replace hD : va_D A9 [(ad 0, .inr (6, [.int (nI (x.1 0)), .int (nI (x.1 1)), .int (nI (x.1 2)), .ref (ad 1), .ref (ad 2), .ref (ad 3), .ref (ad 4), .ref (ad 5), .ref (ad 6), .ref (ad 7), .ref (ad 8), .ref (ad 9), .ref (ad 10), .int (nI (x.1 13)), .ref (ad 11), .ref (ad 12), .int (nI (x.1 16)), .int (nI (x.1 17)), .ref (ad 13), .ref (ad 14), .ref (ad 15), .ref (ad 16), .ref (ad 17), .ref (ad 18), .ref (ad 19), .ref (ad 20), .ref (ad 21), .ref (ad 22), .ref (ad 23), .ref (ad 24)])), (ad 1, .inl (ci 0, 3, .inl (nF (va_up (x.2 0) s j5)))), (ad 2, .inl (ci 0, 1536, .inl (nF (x.2 1)))), (ad 3, .inl (ci 0, 1536, .inl (nF (x.2 2)))), (ad 4, .inl (ci 0, 1536, .inl (nF (x.2 3)))), (ad 5, .inl (ci 0, 3, .inl (nF (x.2 4)))), (ad 6, .inl (ci 0, 3, .inl (nF (x.2 5)))), (ad 7, .inl (ci 0, 3, .inl (nF (x.2 6)))), (ad 8, .inl (ci 0, 3, .inl (nF (x.2 7)))), (ad 9, .inl (ci 0, 3, .inl (nF (va_up (x.2 8) s (((x.2 8) s) + 1))))), (ad 10, .inl (ci 0, 3, .inl (nF (x.2 9)))), (ad 11, .inl (ci 0, 16, .inl (nF (x.2 10)))), (ad 12, .inl (ci 0, 16, .inl (nF (x.2 11)))), (ad 13, .inl (ci 1, 3, .inl (nF (x.2 12)))), (ad 14, .inl (ci 0, 3, .inl (nF (x.2 13)))), (ad 15, .inl (ci 1, 3, .inl (nF (x.2 14)))), (ad 16, .inl (ci 0, 3, .inl (nF (x.2 15)))), (ad 17, .inl (ci 0, 3, .inl (nF (x.2 16)))), (ad 18, .inl (ci 0, 3, .inl (nF (x.2 17)))), (ad 19, .inl (ci 0, 180, .inl (nF (x.2 18)))), (ad 20, .inl (ci 0, 180, .inl (nF (x.2 19)))), (ad 21, .inl (ci 0, 3, .inl (nF (x.2 20)))), (ad 22, .inl (ci 0, 3, .inl (nF (x.2 21)))), (ad 23, .inl (ci 0, 3, .inl (nF (x.2 22)))), (ad 24, .inl (ci 0, 6, .inl (nF (x.2 23))))] := hD
          refine lv_aload_n hx hb d_M_goOn_100 rfl (lv_at hl 1 rfl) ?_
          refine va_get (D := D) (ci := 6) (v := .ref (ad 7)) (C := R_M) (T := F_M) (N := 30) hx hb hT in_M hown hK hP 0 rfl rfl 9 (by decide) (hT _ wd_442) (fun _ h9 => h9) rfl d_M_goOn_101 ?_
          refine lv_iload_n hx hb d_M_goOn_104 rfl (lv_at hl 2 rfl) ?_
          refine lv_dup2_11 hx hb d_M_goOn_105 rfl rfl ?_
          refine ln_ald hx hb hK hP 7 0 rfl rfl b1 (by decide) d_M_goOn_106 ?_
          refine lv_iconst (v := nI 1) hx hb d_M_goOn_107 (by decide) ?_
          refine ln_iadd hx hb d_M_goOn_108 ?_
          refine ln_ast hx hb hK hP hD hS 7 0 rfl rfl b1 (by decide) d_M_goOn_109 (fun H locs hP hD hS => ?_)
          replace hP : va_P D vwCl [(ad 0, .inr (6, [.int (nI (x.1 0)), .int (nI (x.1 1)), .int (nI (x.1 2)), .ref (ad 1), .ref (ad 2), .ref (ad 3), .ref (ad 4), .ref (ad 5), .ref (ad 6), .ref (ad 7), .ref (ad 8), .ref (ad 9), .ref (ad 10), .int (nI (x.1 13)), .ref (ad 11), .ref (ad 12), .int (nI (x.1 16)), .int (nI (x.1 17)), .ref (ad 13), .ref (ad 14), .ref (ad 15), .ref (ad 16), .ref (ad 17), .ref (ad 18), .ref (ad 19), .ref (ad 20), .ref (ad 21), .ref (ad 22), .ref (ad 23), .ref (ad 24)])), (ad 1, .inl (ci 0, 3, .inl (nF (va_up (x.2 0) s j5)))), (ad 2, .inl (ci 0, 1536, .inl (nF (x.2 1)))), (ad 3, .inl (ci 0, 1536, .inl (nF (x.2 2)))), (ad 4, .inl (ci 0, 1536, .inl (nF (x.2 3)))), (ad 5, .inl (ci 0, 3, .inl (nF (x.2 4)))), (ad 6, .inl (ci 0, 3, .inl (nF (x.2 5)))), (ad 7, .inl (ci 0, 3, .inl (nF (va_up (x.2 6) s (((x.2 6) s) + 1))))), (ad 8, .inl (ci 0, 3, .inl (nF (x.2 7)))), (ad 9, .inl (ci 0, 3, .inl (nF (va_up (x.2 8) s (((x.2 8) s) + 1))))), (ad 10, .inl (ci 0, 3, .inl (nF (x.2 9)))), (ad 11, .inl (ci 0, 16, .inl (nF (x.2 10)))), (ad 12, .inl (ci 0, 16, .inl (nF (x.2 11)))), (ad 13, .inl (ci 1, 3, .inl (nF (x.2 12)))), (ad 14, .inl (ci 0, 3, .inl (nF (x.2 13)))), (ad 15, .inl (ci 1, 3, .inl (nF (x.2 14)))), (ad 16, .inl (ci 0, 3, .inl (nF (x.2 15)))), (ad 17, .inl (ci 0, 3, .inl (nF (x.2 16)))), (ad 18, .inl (ci 0, 3, .inl (nF (x.2 17)))), (ad 19, .inl (ci 0, 180, .inl (nF (x.2 18)))), (ad 20, .inl (ci 0, 180, .inl (nF (x.2 19)))), (ad 21, .inl (ci 0, 3, .inl (nF (x.2 20)))), (ad 22, .inl (ci 0, 3, .inl (nF (x.2 21)))), (ad 23, .inl (ci 0, 3, .inl (nF (x.2 22)))), (ad 24, .inl (ci 0, 6, .inl (nF (x.2 23))))] H := hP
          replace hD : va_D A9 [(ad 0, .inr (6, [.int (nI (x.1 0)), .int (nI (x.1 1)), .int (nI (x.1 2)), .ref (ad 1), .ref (ad 2), .ref (ad 3), .ref (ad 4), .ref (ad 5), .ref (ad 6), .ref (ad 7), .ref (ad 8), .ref (ad 9), .ref (ad 10), .int (nI (x.1 13)), .ref (ad 11), .ref (ad 12), .int (nI (x.1 16)), .int (nI (x.1 17)), .ref (ad 13), .ref (ad 14), .ref (ad 15), .ref (ad 16), .ref (ad 17), .ref (ad 18), .ref (ad 19), .ref (ad 20), .ref (ad 21), .ref (ad 22), .ref (ad 23), .ref (ad 24)])), (ad 1, .inl (ci 0, 3, .inl (nF (va_up (x.2 0) s j5)))), (ad 2, .inl (ci 0, 1536, .inl (nF (x.2 1)))), (ad 3, .inl (ci 0, 1536, .inl (nF (x.2 2)))), (ad 4, .inl (ci 0, 1536, .inl (nF (x.2 3)))), (ad 5, .inl (ci 0, 3, .inl (nF (x.2 4)))), (ad 6, .inl (ci 0, 3, .inl (nF (x.2 5)))), (ad 7, .inl (ci 0, 3, .inl (nF (va_up (x.2 6) s (((x.2 6) s) + 1))))), (ad 8, .inl (ci 0, 3, .inl (nF (x.2 7)))), (ad 9, .inl (ci 0, 3, .inl (nF (va_up (x.2 8) s (((x.2 8) s) + 1))))), (ad 10, .inl (ci 0, 3, .inl (nF (x.2 9)))), (ad 11, .inl (ci 0, 16, .inl (nF (x.2 10)))), (ad 12, .inl (ci 0, 16, .inl (nF (x.2 11)))), (ad 13, .inl (ci 1, 3, .inl (nF (x.2 12)))), (ad 14, .inl (ci 0, 3, .inl (nF (x.2 13)))), (ad 15, .inl (ci 1, 3, .inl (nF (x.2 14)))), (ad 16, .inl (ci 0, 3, .inl (nF (x.2 15)))), (ad 17, .inl (ci 0, 3, .inl (nF (x.2 16)))), (ad 18, .inl (ci 0, 3, .inl (nF (x.2 17)))), (ad 19, .inl (ci 0, 180, .inl (nF (x.2 18)))), (ad 20, .inl (ci 0, 180, .inl (nF (x.2 19)))), (ad 21, .inl (ci 0, 3, .inl (nF (x.2 20)))), (ad 22, .inl (ci 0, 3, .inl (nF (x.2 21)))), (ad 23, .inl (ci 0, 3, .inl (nF (x.2 22)))), (ad 24, .inl (ci 0, 6, .inl (nF (x.2 23))))] := hD
          refine lv_aload_n hx hb d_M_goOn_110 rfl (lv_at hl 1 rfl) ?_
          refine va_get (D := D) (ci := 6) (v := .ref (ad 8)) (C := R_M) (T := F_M) (N := 30) hx hb hT in_M hown hK hP 0 rfl rfl 10 (by decide) (hT _ wd_443) (fun _ h9 => h9) rfl d_M_goOn_111 ?_
          refine lv_iload_n hx hb d_M_goOn_114 rfl (lv_at hl 2 rfl) ?_
          refine lv_iconst (v := nI 0) hx hb d_M_goOn_115 (by decide) ?_
          refine ln_ast hx hb hK hP hD hS 8 0 rfl rfl b1 (by decide) d_M_goOn_116 (fun H locs hP hD hS => ?_)
          replace hP : va_P D vwCl [(ad 0, .inr (6, [.int (nI (x.1 0)), .int (nI (x.1 1)), .int (nI (x.1 2)), .ref (ad 1), .ref (ad 2), .ref (ad 3), .ref (ad 4), .ref (ad 5), .ref (ad 6), .ref (ad 7), .ref (ad 8), .ref (ad 9), .ref (ad 10), .int (nI (x.1 13)), .ref (ad 11), .ref (ad 12), .int (nI (x.1 16)), .int (nI (x.1 17)), .ref (ad 13), .ref (ad 14), .ref (ad 15), .ref (ad 16), .ref (ad 17), .ref (ad 18), .ref (ad 19), .ref (ad 20), .ref (ad 21), .ref (ad 22), .ref (ad 23), .ref (ad 24)])), (ad 1, .inl (ci 0, 3, .inl (nF (va_up (x.2 0) s j5)))), (ad 2, .inl (ci 0, 1536, .inl (nF (x.2 1)))), (ad 3, .inl (ci 0, 1536, .inl (nF (x.2 2)))), (ad 4, .inl (ci 0, 1536, .inl (nF (x.2 3)))), (ad 5, .inl (ci 0, 3, .inl (nF (x.2 4)))), (ad 6, .inl (ci 0, 3, .inl (nF (x.2 5)))), (ad 7, .inl (ci 0, 3, .inl (nF (va_up (x.2 6) s (((x.2 6) s) + 1))))), (ad 8, .inl (ci 0, 3, .inl (nF (va_up (x.2 7) s 0)))), (ad 9, .inl (ci 0, 3, .inl (nF (va_up (x.2 8) s (((x.2 8) s) + 1))))), (ad 10, .inl (ci 0, 3, .inl (nF (x.2 9)))), (ad 11, .inl (ci 0, 16, .inl (nF (x.2 10)))), (ad 12, .inl (ci 0, 16, .inl (nF (x.2 11)))), (ad 13, .inl (ci 1, 3, .inl (nF (x.2 12)))), (ad 14, .inl (ci 0, 3, .inl (nF (x.2 13)))), (ad 15, .inl (ci 1, 3, .inl (nF (x.2 14)))), (ad 16, .inl (ci 0, 3, .inl (nF (x.2 15)))), (ad 17, .inl (ci 0, 3, .inl (nF (x.2 16)))), (ad 18, .inl (ci 0, 3, .inl (nF (x.2 17)))), (ad 19, .inl (ci 0, 180, .inl (nF (x.2 18)))), (ad 20, .inl (ci 0, 180, .inl (nF (x.2 19)))), (ad 21, .inl (ci 0, 3, .inl (nF (x.2 20)))), (ad 22, .inl (ci 0, 3, .inl (nF (x.2 21)))), (ad 23, .inl (ci 0, 3, .inl (nF (x.2 22)))), (ad 24, .inl (ci 0, 6, .inl (nF (x.2 23))))] H := hP
          replace hD : va_D A9 [(ad 0, .inr (6, [.int (nI (x.1 0)), .int (nI (x.1 1)), .int (nI (x.1 2)), .ref (ad 1), .ref (ad 2), .ref (ad 3), .ref (ad 4), .ref (ad 5), .ref (ad 6), .ref (ad 7), .ref (ad 8), .ref (ad 9), .ref (ad 10), .int (nI (x.1 13)), .ref (ad 11), .ref (ad 12), .int (nI (x.1 16)), .int (nI (x.1 17)), .ref (ad 13), .ref (ad 14), .ref (ad 15), .ref (ad 16), .ref (ad 17), .ref (ad 18), .ref (ad 19), .ref (ad 20), .ref (ad 21), .ref (ad 22), .ref (ad 23), .ref (ad 24)])), (ad 1, .inl (ci 0, 3, .inl (nF (va_up (x.2 0) s j5)))), (ad 2, .inl (ci 0, 1536, .inl (nF (x.2 1)))), (ad 3, .inl (ci 0, 1536, .inl (nF (x.2 2)))), (ad 4, .inl (ci 0, 1536, .inl (nF (x.2 3)))), (ad 5, .inl (ci 0, 3, .inl (nF (x.2 4)))), (ad 6, .inl (ci 0, 3, .inl (nF (x.2 5)))), (ad 7, .inl (ci 0, 3, .inl (nF (va_up (x.2 6) s (((x.2 6) s) + 1))))), (ad 8, .inl (ci 0, 3, .inl (nF (va_up (x.2 7) s 0)))), (ad 9, .inl (ci 0, 3, .inl (nF (va_up (x.2 8) s (((x.2 8) s) + 1))))), (ad 10, .inl (ci 0, 3, .inl (nF (x.2 9)))), (ad 11, .inl (ci 0, 16, .inl (nF (x.2 10)))), (ad 12, .inl (ci 0, 16, .inl (nF (x.2 11)))), (ad 13, .inl (ci 1, 3, .inl (nF (x.2 12)))), (ad 14, .inl (ci 0, 3, .inl (nF (x.2 13)))), (ad 15, .inl (ci 1, 3, .inl (nF (x.2 14)))), (ad 16, .inl (ci 0, 3, .inl (nF (x.2 15)))), (ad 17, .inl (ci 0, 3, .inl (nF (x.2 16)))), (ad 18, .inl (ci 0, 3, .inl (nF (x.2 17)))), (ad 19, .inl (ci 0, 180, .inl (nF (x.2 18)))), (ad 20, .inl (ci 0, 180, .inl (nF (x.2 19)))), (ad 21, .inl (ci 0, 3, .inl (nF (x.2 20)))), (ad 22, .inl (ci 0, 3, .inl (nF (x.2 21)))), (ad 23, .inl (ci 0, 3, .inl (nF (x.2 22)))), (ad 24, .inl (ci 0, 6, .inl (nF (x.2 23))))] := hD
          obtain rfl := Option.some.inj hF
          have hl := lv_sub hl [1, 2, 0] rfl
          exact k19 _ _ _ hl hP hD hS
  have hF := g8
  refine ln_icmp_ge hx hb b2 b3 22 d_M_goOn_15 (by decide) (fun h4 => ?_) (fun h4 => ?_)
  · have hF := it_p hF h4
    refine lv_aload_n hx hb d_M_goOn_22 rfl (lv_at hl 0 rfl) ?_
    refine va_get (D := D) (ci := 6) (v := .ref (ad 1)) (C := R_M) (T := F_M) (N := 30) hx hb hT in_M hown hK hP 0 rfl rfl 3 (by decide) (hT _ wd_436) (fun _ h9 => h9) rfl d_M_goOn_23 ?_
    refine lv_iload_n hx hb d_M_goOn_26 rfl (lv_at hl 1 rfl) ?_
    refine ln_ald hx hb hK hP 1 0 rfl rfl b1 (by decide) d_M_goOn_27 ?_
    refine lv_aload_n hx hb d_M_goOn_28 rfl (lv_at hl 0 rfl) ?_
    refine va_get (D := D) (ci := 6) (v := .int (nI (x.1 0))) (C := R_M) (T := F_M) (N := 30) hx hb hT in_M hown hK hP 0 rfl rfl 0 (by decide) (hT _ wd_433) (fun _ h9 => h9) rfl d_M_goOn_29 ?_
    obtain ⟨b7, hF⟩ := ss_s hF
    refine ln_isub hx hb b7 d_M_goOn_32 ?_
    obtain rfl := Option.some.inj hF
    have hl := lv_sub hl [0, 1] rfl
    exact k6 _ _ _ hl hP hD hS
  · have hF := it_n hF h4
    refine lv_iconst (v := nI 0) hx hb d_M_goOn_18 (by decide) ?_
    refine lv_goto (tgt := 33) hx hb d_M_goOn_19 (by decide) ?_
    obtain rfl := Option.some.inj hF
    have hl := lv_sub hl [0, 1] rfl
    exact k6 _ _ _ hl hP hD hS
def fM_takes (x : ST) (s : Nat) : Option (Nat) := ss (s < 3) (ss (((x.2 6) s) < 2147483648) (ss (((x.2 4) s) < 2147483648) ((if ¬ ((x.2 6) s) = ((x.2 4) s) then ss ((x.1 2) < 2147483648) (ss (((x.1 2) % 8) < 2147483648) (ob (α := Nat) (if ¬ ((x.1 2) % 8) = 0 then (some 0 : Option (Nat)) else (some 2 : Option (Nat))) (fun j8 => ss (j8 ≤ 14) (ss (((x.2 7) s) < 2147483648) (ob (α := Nat) (if ¬ ((x.2 7) s) = 0 then (some 0 : Option (Nat)) else (some 3 : Option (Nat))) (fun j14 => ss (j14 ≤ (14 - j8)) (ss (((512 * s) + ((x.2 6) s)) < 1536) (ss (((x.2 7) s) ≤ ((x.2 1) ((512 * s) + ((x.2 6) s)))) (ss ((((x.2 1) ((512 * s) + ((x.2 6) s))) - ((x.2 7) s)) < 2147483648) (ss (((14 - j8) - j14) < 2147483648) ((if ((14 - j8) - j14) ≤ (((x.2 1) ((512 * s) + ((x.2 6) s))) - ((x.2 7) s)) then some ((14 - j8) - j14) else some (((x.2 1) ((512 * s) + ((x.2 6) s))) - ((x.2 7) s)))))))))))))) else some 0))))
abbrev rm_M_takes : Room := { frames := 0, cells := 0, slots := 0, locals := 0 }
set_option maxHeartbeats 4000000 in
set_option maxRecDepth 100000 in
theorem cM_takes (l : Launch) (D : va_G) (ci : Nat → ClassId) (ad : Nat → Nat) (x : ST) (s : Nat) (o : Nat) (hF : fM_takes x s = some o) : CtI l y_M_takes w_M_takes rm_M_takes D vwCl (tyC ci) [.ref (ad 0), .int (nI s)] (wM ad ci x) (nI o) (wM ad ci x) := by
  refine ct_i (cc := b_M_takes) (maxL := 4) (plainFor_of_name (by decide)) rfl (Nat.le_of_ble_eq_true rfl) (fun p9 e9 s9 m9 args9 be9 me9 c9 A9 Q9 ls H0 hx hb hml hts hown hK hN hl hP hD hS hA kR => ?_)
  replace hl : lv_has ls 4 [(0, .ref (ad 0)), (1, .int (nI s))] := hl
  replace hP : va_P D vwCl [(ad 0, .inr (6, [.int (nI (x.1 0)), .int (nI (x.1 1)), .int (nI (x.1 2)), .ref (ad 1), .ref (ad 2), .ref (ad 3), .ref (ad 4), .ref (ad 5), .ref (ad 6), .ref (ad 7), .ref (ad 8), .ref (ad 9), .ref (ad 10), .int (nI (x.1 13)), .ref (ad 11), .ref (ad 12), .int (nI (x.1 16)), .int (nI (x.1 17)), .ref (ad 13), .ref (ad 14), .ref (ad 15), .ref (ad 16), .ref (ad 17), .ref (ad 18), .ref (ad 19), .ref (ad 20), .ref (ad 21), .ref (ad 22), .ref (ad 23), .ref (ad 24)])), (ad 1, .inl (ci 0, 3, .inl (nF (x.2 0)))), (ad 2, .inl (ci 0, 1536, .inl (nF (x.2 1)))), (ad 3, .inl (ci 0, 1536, .inl (nF (x.2 2)))), (ad 4, .inl (ci 0, 1536, .inl (nF (x.2 3)))), (ad 5, .inl (ci 0, 3, .inl (nF (x.2 4)))), (ad 6, .inl (ci 0, 3, .inl (nF (x.2 5)))), (ad 7, .inl (ci 0, 3, .inl (nF (x.2 6)))), (ad 8, .inl (ci 0, 3, .inl (nF (x.2 7)))), (ad 9, .inl (ci 0, 3, .inl (nF (x.2 8)))), (ad 10, .inl (ci 0, 3, .inl (nF (x.2 9)))), (ad 11, .inl (ci 0, 16, .inl (nF (x.2 10)))), (ad 12, .inl (ci 0, 16, .inl (nF (x.2 11)))), (ad 13, .inl (ci 1, 3, .inl (nF (x.2 12)))), (ad 14, .inl (ci 0, 3, .inl (nF (x.2 13)))), (ad 15, .inl (ci 1, 3, .inl (nF (x.2 14)))), (ad 16, .inl (ci 0, 3, .inl (nF (x.2 15)))), (ad 17, .inl (ci 0, 3, .inl (nF (x.2 16)))), (ad 18, .inl (ci 0, 3, .inl (nF (x.2 17)))), (ad 19, .inl (ci 0, 180, .inl (nF (x.2 18)))), (ad 20, .inl (ci 0, 180, .inl (nF (x.2 19)))), (ad 21, .inl (ci 0, 3, .inl (nF (x.2 20)))), (ad 22, .inl (ci 0, 3, .inl (nF (x.2 21)))), (ad 23, .inl (ci 0, 3, .inl (nF (x.2 22)))), (ad 24, .inl (ci 0, 6, .inl (nF (x.2 23))))] H0 := hP
  replace hD : va_D A9 [(ad 0, .inr (6, [.int (nI (x.1 0)), .int (nI (x.1 1)), .int (nI (x.1 2)), .ref (ad 1), .ref (ad 2), .ref (ad 3), .ref (ad 4), .ref (ad 5), .ref (ad 6), .ref (ad 7), .ref (ad 8), .ref (ad 9), .ref (ad 10), .int (nI (x.1 13)), .ref (ad 11), .ref (ad 12), .int (nI (x.1 16)), .int (nI (x.1 17)), .ref (ad 13), .ref (ad 14), .ref (ad 15), .ref (ad 16), .ref (ad 17), .ref (ad 18), .ref (ad 19), .ref (ad 20), .ref (ad 21), .ref (ad 22), .ref (ad 23), .ref (ad 24)])), (ad 1, .inl (ci 0, 3, .inl (nF (x.2 0)))), (ad 2, .inl (ci 0, 1536, .inl (nF (x.2 1)))), (ad 3, .inl (ci 0, 1536, .inl (nF (x.2 2)))), (ad 4, .inl (ci 0, 1536, .inl (nF (x.2 3)))), (ad 5, .inl (ci 0, 3, .inl (nF (x.2 4)))), (ad 6, .inl (ci 0, 3, .inl (nF (x.2 5)))), (ad 7, .inl (ci 0, 3, .inl (nF (x.2 6)))), (ad 8, .inl (ci 0, 3, .inl (nF (x.2 7)))), (ad 9, .inl (ci 0, 3, .inl (nF (x.2 8)))), (ad 10, .inl (ci 0, 3, .inl (nF (x.2 9)))), (ad 11, .inl (ci 0, 16, .inl (nF (x.2 10)))), (ad 12, .inl (ci 0, 16, .inl (nF (x.2 11)))), (ad 13, .inl (ci 1, 3, .inl (nF (x.2 12)))), (ad 14, .inl (ci 0, 3, .inl (nF (x.2 13)))), (ad 15, .inl (ci 1, 3, .inl (nF (x.2 14)))), (ad 16, .inl (ci 0, 3, .inl (nF (x.2 15)))), (ad 17, .inl (ci 0, 3, .inl (nF (x.2 16)))), (ad 18, .inl (ci 0, 3, .inl (nF (x.2 17)))), (ad 19, .inl (ci 0, 180, .inl (nF (x.2 18)))), (ad 20, .inl (ci 0, 180, .inl (nF (x.2 19)))), (ad 21, .inl (ci 0, 3, .inl (nF (x.2 20)))), (ad 22, .inl (ci 0, 3, .inl (nF (x.2 21)))), (ad 23, .inl (ci 0, 3, .inl (nF (x.2 22)))), (ad 24, .inl (ci 0, 6, .inl (nF (x.2 23))))] := hD
  replace hown : s9.vm.findClass R_M = some m9.cls := hown
  have hT : ∀ w ∈ lw_ok, w.before args9 s9 = true := fun w h => hts w (List.mem_cons_of_mem _ h)
  rw [fM_takes] at hF
  generalize hH : H0 = H at hP ⊢
  replace hS : va_S A9 H0 H [] := by rw [← hH]; exact hS
  clear hH
  generalize ([] : List Loc) = locs at hS ⊢
  refine lv_aload_n hx hb d_M_takes_0 rfl (lv_at hl 0 rfl) ?_
  refine va_get (D := D) (ci := 6) (v := .ref (ad 7)) (C := R_M) (T := F_M) (N := 30) hx hb hT in_M hown hK hP 0 rfl rfl 9 (by decide) (hT _ wd_442) (fun _ h9 => h9) rfl d_M_takes_1 ?_
  refine lv_iload_n hx hb d_M_takes_4 rfl (lv_at hl 1 rfl) ?_
  obtain ⟨b1, hF⟩ := ss_s hF
  refine ln_ald hx hb hK hP 7 0 rfl rfl b1 (by decide) d_M_takes_5 ?_
  refine lv_aload_n hx hb d_M_takes_6 rfl (lv_at hl 0 rfl) ?_
  refine va_get (D := D) (ci := 6) (v := .ref (ad 5)) (C := R_M) (T := F_M) (N := 30) hx hb hT in_M hown hK hP 0 rfl rfl 7 (by decide) (hT _ wd_440) (fun _ h9 => h9) rfl d_M_takes_7 ?_
  refine lv_iload_n hx hb d_M_takes_10 rfl (lv_at hl 1 rfl) ?_
  refine ln_ald hx hb hK hP 5 0 rfl rfl b1 (by decide) d_M_takes_11 ?_
  obtain ⟨b2, hF⟩ := ss_s hF
  obtain ⟨b3, hF⟩ := ss_s hF
  refine ln_icmp_ne hx hb b2 b3 17 d_M_takes_12 (by decide) (fun h4 => ?_) (fun h4 => ?_)
  · have hF := it_p hF h4
    refine lv_bipush (v := nI 14) hx hb d_M_takes_17 (by decide) ?_
    refine lv_aload_n hx hb d_M_takes_19 rfl (lv_at hl 0 rfl) ?_
    refine va_get (D := D) (ci := 6) (v := .int (nI (x.1 2))) (C := R_M) (T := F_M) (N := 30) hx hb hT in_M hown hK hP 0 rfl rfl 2 (by decide) (hT _ wd_435) (fun _ h9 => h9) rfl d_M_takes_20 ?_
    refine lv_bipush (v := nI 8) hx hb d_M_takes_23 (by decide) ?_
    obtain ⟨b5, hF⟩ := ss_s hF
    refine ln_irem hx hb b5 (by decide) (by decide) d_M_takes_25 ?_
    obtain ⟨b6, hF⟩ := ss_s hF
    obtain ⟨j8, g10, hF⟩ := ob_s hF
    have k9 : ∀ (ls : Array Slot) (H : Heap) (locs : List Loc), lv_has ls 4 [(0, .ref (ad 0)), (1, .int (nI s))] → va_P D vwCl [(ad 0, .inr (6, [.int (nI (x.1 0)), .int (nI (x.1 1)), .int (nI (x.1 2)), .ref (ad 1), .ref (ad 2), .ref (ad 3), .ref (ad 4), .ref (ad 5), .ref (ad 6), .ref (ad 7), .ref (ad 8), .ref (ad 9), .ref (ad 10), .int (nI (x.1 13)), .ref (ad 11), .ref (ad 12), .int (nI (x.1 16)), .int (nI (x.1 17)), .ref (ad 13), .ref (ad 14), .ref (ad 15), .ref (ad 16), .ref (ad 17), .ref (ad 18), .ref (ad 19), .ref (ad 20), .ref (ad 21), .ref (ad 22), .ref (ad 23), .ref (ad 24)])), (ad 1, .inl (ci 0, 3, .inl (nF (x.2 0)))), (ad 2, .inl (ci 0, 1536, .inl (nF (x.2 1)))), (ad 3, .inl (ci 0, 1536, .inl (nF (x.2 2)))), (ad 4, .inl (ci 0, 1536, .inl (nF (x.2 3)))), (ad 5, .inl (ci 0, 3, .inl (nF (x.2 4)))), (ad 6, .inl (ci 0, 3, .inl (nF (x.2 5)))), (ad 7, .inl (ci 0, 3, .inl (nF (x.2 6)))), (ad 8, .inl (ci 0, 3, .inl (nF (x.2 7)))), (ad 9, .inl (ci 0, 3, .inl (nF (x.2 8)))), (ad 10, .inl (ci 0, 3, .inl (nF (x.2 9)))), (ad 11, .inl (ci 0, 16, .inl (nF (x.2 10)))), (ad 12, .inl (ci 0, 16, .inl (nF (x.2 11)))), (ad 13, .inl (ci 1, 3, .inl (nF (x.2 12)))), (ad 14, .inl (ci 0, 3, .inl (nF (x.2 13)))), (ad 15, .inl (ci 1, 3, .inl (nF (x.2 14)))), (ad 16, .inl (ci 0, 3, .inl (nF (x.2 15)))), (ad 17, .inl (ci 0, 3, .inl (nF (x.2 16)))), (ad 18, .inl (ci 0, 3, .inl (nF (x.2 17)))), (ad 19, .inl (ci 0, 180, .inl (nF (x.2 18)))), (ad 20, .inl (ci 0, 180, .inl (nF (x.2 19)))), (ad 21, .inl (ci 0, 3, .inl (nF (x.2 20)))), (ad 22, .inl (ci 0, 3, .inl (nF (x.2 21)))), (ad 23, .inl (ci 0, 3, .inl (nF (x.2 22)))), (ad 24, .inl (ci 0, 6, .inl (nF (x.2 23))))] H → va_D A9 [(ad 0, .inr (6, [.int (nI (x.1 0)), .int (nI (x.1 1)), .int (nI (x.1 2)), .ref (ad 1), .ref (ad 2), .ref (ad 3), .ref (ad 4), .ref (ad 5), .ref (ad 6), .ref (ad 7), .ref (ad 8), .ref (ad 9), .ref (ad 10), .int (nI (x.1 13)), .ref (ad 11), .ref (ad 12), .int (nI (x.1 16)), .int (nI (x.1 17)), .ref (ad 13), .ref (ad 14), .ref (ad 15), .ref (ad 16), .ref (ad 17), .ref (ad 18), .ref (ad 19), .ref (ad 20), .ref (ad 21), .ref (ad 22), .ref (ad 23), .ref (ad 24)])), (ad 1, .inl (ci 0, 3, .inl (nF (x.2 0)))), (ad 2, .inl (ci 0, 1536, .inl (nF (x.2 1)))), (ad 3, .inl (ci 0, 1536, .inl (nF (x.2 2)))), (ad 4, .inl (ci 0, 1536, .inl (nF (x.2 3)))), (ad 5, .inl (ci 0, 3, .inl (nF (x.2 4)))), (ad 6, .inl (ci 0, 3, .inl (nF (x.2 5)))), (ad 7, .inl (ci 0, 3, .inl (nF (x.2 6)))), (ad 8, .inl (ci 0, 3, .inl (nF (x.2 7)))), (ad 9, .inl (ci 0, 3, .inl (nF (x.2 8)))), (ad 10, .inl (ci 0, 3, .inl (nF (x.2 9)))), (ad 11, .inl (ci 0, 16, .inl (nF (x.2 10)))), (ad 12, .inl (ci 0, 16, .inl (nF (x.2 11)))), (ad 13, .inl (ci 1, 3, .inl (nF (x.2 12)))), (ad 14, .inl (ci 0, 3, .inl (nF (x.2 13)))), (ad 15, .inl (ci 1, 3, .inl (nF (x.2 14)))), (ad 16, .inl (ci 0, 3, .inl (nF (x.2 15)))), (ad 17, .inl (ci 0, 3, .inl (nF (x.2 16)))), (ad 18, .inl (ci 0, 3, .inl (nF (x.2 17)))), (ad 19, .inl (ci 0, 180, .inl (nF (x.2 18)))), (ad 20, .inl (ci 0, 180, .inl (nF (x.2 19)))), (ad 21, .inl (ci 0, 3, .inl (nF (x.2 20)))), (ad 22, .inl (ci 0, 3, .inl (nF (x.2 21)))), (ad 23, .inl (ci 0, 3, .inl (nF (x.2 22)))), (ad 24, .inl (ci 0, 6, .inl (nF (x.2 23))))] → va_S A9 H0 H locs → W p9 l e9 rm_M_takes s9 m9 args9 be9 me9 c9 H locs 0 0 Q9 (F0 m9 34 ls [.int (nI j8), .int (nI 14)]) := by
      intro ls H locs hl hP hD hS
      obtain ⟨b11, hF⟩ := ss_s hF
      refine ln_isub hx hb b11 d_M_takes_34 ?_
      refine lv_aload_n hx hb d_M_takes_35 rfl (lv_at hl 0 rfl) ?_
      refine va_get (D := D) (ci := 6) (v := .ref (ad 8)) (C := R_M) (T := F_M) (N := 30) hx hb hT in_M hown hK hP 0 rfl rfl 10 (by decide) (hT _ wd_443) (fun _ h9 => h9) rfl d_M_takes_36 ?_
      refine lv_iload_n hx hb d_M_takes_39 rfl (lv_at hl 1 rfl) ?_
      refine ln_ald hx hb hK hP 8 0 rfl rfl b1 (by decide) d_M_takes_40 ?_
      obtain ⟨b12, hF⟩ := ss_s hF
      obtain ⟨j14, g16, hF⟩ := ob_s hF
      have k15 : ∀ (ls : Array Slot) (H : Heap) (locs : List Loc), lv_has ls 4 [(0, .ref (ad 0)), (1, .int (nI s))] → va_P D vwCl [(ad 0, .inr (6, [.int (nI (x.1 0)), .int (nI (x.1 1)), .int (nI (x.1 2)), .ref (ad 1), .ref (ad 2), .ref (ad 3), .ref (ad 4), .ref (ad 5), .ref (ad 6), .ref (ad 7), .ref (ad 8), .ref (ad 9), .ref (ad 10), .int (nI (x.1 13)), .ref (ad 11), .ref (ad 12), .int (nI (x.1 16)), .int (nI (x.1 17)), .ref (ad 13), .ref (ad 14), .ref (ad 15), .ref (ad 16), .ref (ad 17), .ref (ad 18), .ref (ad 19), .ref (ad 20), .ref (ad 21), .ref (ad 22), .ref (ad 23), .ref (ad 24)])), (ad 1, .inl (ci 0, 3, .inl (nF (x.2 0)))), (ad 2, .inl (ci 0, 1536, .inl (nF (x.2 1)))), (ad 3, .inl (ci 0, 1536, .inl (nF (x.2 2)))), (ad 4, .inl (ci 0, 1536, .inl (nF (x.2 3)))), (ad 5, .inl (ci 0, 3, .inl (nF (x.2 4)))), (ad 6, .inl (ci 0, 3, .inl (nF (x.2 5)))), (ad 7, .inl (ci 0, 3, .inl (nF (x.2 6)))), (ad 8, .inl (ci 0, 3, .inl (nF (x.2 7)))), (ad 9, .inl (ci 0, 3, .inl (nF (x.2 8)))), (ad 10, .inl (ci 0, 3, .inl (nF (x.2 9)))), (ad 11, .inl (ci 0, 16, .inl (nF (x.2 10)))), (ad 12, .inl (ci 0, 16, .inl (nF (x.2 11)))), (ad 13, .inl (ci 1, 3, .inl (nF (x.2 12)))), (ad 14, .inl (ci 0, 3, .inl (nF (x.2 13)))), (ad 15, .inl (ci 1, 3, .inl (nF (x.2 14)))), (ad 16, .inl (ci 0, 3, .inl (nF (x.2 15)))), (ad 17, .inl (ci 0, 3, .inl (nF (x.2 16)))), (ad 18, .inl (ci 0, 3, .inl (nF (x.2 17)))), (ad 19, .inl (ci 0, 180, .inl (nF (x.2 18)))), (ad 20, .inl (ci 0, 180, .inl (nF (x.2 19)))), (ad 21, .inl (ci 0, 3, .inl (nF (x.2 20)))), (ad 22, .inl (ci 0, 3, .inl (nF (x.2 21)))), (ad 23, .inl (ci 0, 3, .inl (nF (x.2 22)))), (ad 24, .inl (ci 0, 6, .inl (nF (x.2 23))))] H → va_D A9 [(ad 0, .inr (6, [.int (nI (x.1 0)), .int (nI (x.1 1)), .int (nI (x.1 2)), .ref (ad 1), .ref (ad 2), .ref (ad 3), .ref (ad 4), .ref (ad 5), .ref (ad 6), .ref (ad 7), .ref (ad 8), .ref (ad 9), .ref (ad 10), .int (nI (x.1 13)), .ref (ad 11), .ref (ad 12), .int (nI (x.1 16)), .int (nI (x.1 17)), .ref (ad 13), .ref (ad 14), .ref (ad 15), .ref (ad 16), .ref (ad 17), .ref (ad 18), .ref (ad 19), .ref (ad 20), .ref (ad 21), .ref (ad 22), .ref (ad 23), .ref (ad 24)])), (ad 1, .inl (ci 0, 3, .inl (nF (x.2 0)))), (ad 2, .inl (ci 0, 1536, .inl (nF (x.2 1)))), (ad 3, .inl (ci 0, 1536, .inl (nF (x.2 2)))), (ad 4, .inl (ci 0, 1536, .inl (nF (x.2 3)))), (ad 5, .inl (ci 0, 3, .inl (nF (x.2 4)))), (ad 6, .inl (ci 0, 3, .inl (nF (x.2 5)))), (ad 7, .inl (ci 0, 3, .inl (nF (x.2 6)))), (ad 8, .inl (ci 0, 3, .inl (nF (x.2 7)))), (ad 9, .inl (ci 0, 3, .inl (nF (x.2 8)))), (ad 10, .inl (ci 0, 3, .inl (nF (x.2 9)))), (ad 11, .inl (ci 0, 16, .inl (nF (x.2 10)))), (ad 12, .inl (ci 0, 16, .inl (nF (x.2 11)))), (ad 13, .inl (ci 1, 3, .inl (nF (x.2 12)))), (ad 14, .inl (ci 0, 3, .inl (nF (x.2 13)))), (ad 15, .inl (ci 1, 3, .inl (nF (x.2 14)))), (ad 16, .inl (ci 0, 3, .inl (nF (x.2 15)))), (ad 17, .inl (ci 0, 3, .inl (nF (x.2 16)))), (ad 18, .inl (ci 0, 3, .inl (nF (x.2 17)))), (ad 19, .inl (ci 0, 180, .inl (nF (x.2 18)))), (ad 20, .inl (ci 0, 180, .inl (nF (x.2 19)))), (ad 21, .inl (ci 0, 3, .inl (nF (x.2 20)))), (ad 22, .inl (ci 0, 3, .inl (nF (x.2 21)))), (ad 23, .inl (ci 0, 3, .inl (nF (x.2 22)))), (ad 24, .inl (ci 0, 6, .inl (nF (x.2 23))))] → va_S A9 H0 H locs → W p9 l e9 rm_M_takes s9 m9 args9 be9 me9 c9 H locs 0 0 Q9 (F0 m9 49 ls [.int (nI j14), .int (nI (14 - j8))]) := by
        intro ls H locs hl hP hD hS
        obtain ⟨b17, hF⟩ := ss_s hF
        refine ln_isub hx hb b17 d_M_takes_49 ?_
        refine lv_istore_n hx hb d_M_takes_50 rfl hl (by decide) rfl (fun ls hl => ?_)
        replace hl : lv_has ls 4 [(2, .int (nI ((14 - j8) - j14))), (0, .ref (ad 0)), (1, .int (nI s))] := hl
        refine lv_aload_n hx hb d_M_takes_51 rfl (lv_at hl 1 rfl) ?_
        refine va_get (D := D) (ci := 6) (v := .ref (ad 2)) (C := R_M) (T := F_M) (N := 30) hx hb hT in_M hown hK hP 0 rfl rfl 4 (by decide) (hT _ wd_437) (fun _ h9 => h9) rfl d_M_takes_52 ?_
        refine lv_sipush (v := nI 512) hx hb d_M_takes_55 (by decide) ?_
        refine lv_iload_n hx hb d_M_takes_58 rfl (lv_at hl 2 rfl) ?_
        refine ln_imul hx hb d_M_takes_59 ?_
        refine lv_aload_n hx hb d_M_takes_60 rfl (lv_at hl 1 rfl) ?_
        refine va_get (D := D) (ci := 6) (v := .ref (ad 7)) (C := R_M) (T := F_M) (N := 30) hx hb hT in_M hown hK hP 0 rfl rfl 9 (by decide) (hT _ wd_442) (fun _ h9 => h9) rfl d_M_takes_61 ?_
        refine lv_iload_n hx hb d_M_takes_64 rfl (lv_at hl 2 rfl) ?_
        refine ln_ald hx hb hK hP 7 0 rfl rfl b1 (by decide) d_M_takes_65 ?_
        refine ln_iadd hx hb d_M_takes_66 ?_
        obtain ⟨b18, hF⟩ := ss_s hF
        refine ln_ald hx hb hK hP 2 0 rfl rfl b18 (by decide) d_M_takes_67 ?_
        refine lv_aload_n hx hb d_M_takes_68 rfl (lv_at hl 1 rfl) ?_
        refine va_get (D := D) (ci := 6) (v := .ref (ad 8)) (C := R_M) (T := F_M) (N := 30) hx hb hT in_M hown hK hP 0 rfl rfl 10 (by decide) (hT _ wd_443) (fun _ h9 => h9) rfl d_M_takes_69 ?_
        refine lv_iload_n hx hb d_M_takes_72 rfl (lv_at hl 2 rfl) ?_
        refine ln_ald hx hb hK hP 8 0 rfl rfl b1 (by decide) d_M_takes_73 ?_
        obtain ⟨b19, hF⟩ := ss_s hF
        refine ln_isub hx hb b19 d_M_takes_74 ?_
        refine lv_istore_n hx hb d_M_takes_75 rfl hl (by decide) rfl (fun ls hl => ?_)
        replace hl : lv_has ls 4 [(3, .int (nI (((x.2 1) ((512 * s) + ((x.2 6) s))) - ((x.2 7) s)))), (2, .int (nI ((14 - j8) - j14))), (0, .ref (ad 0)), (1, .int (nI s))] := hl
        refine lv_iload_n hx hb d_M_takes_76 rfl (lv_at hl 0 rfl) ?_
        refine lv_iload_n hx hb d_M_takes_77 rfl (lv_at hl 1 rfl) ?_
        obtain ⟨b20, hF⟩ := ss_s hF
        obtain ⟨b21, hF⟩ := ss_s hF
        refine ln_icmp_ge hx hb b20 b21 85 d_M_takes_78 (by decide) (fun h22 => ?_) (fun h22 => ?_)
        · have hF := it_p hF h22
          refine lv_iload_n hx hb d_M_takes_85 rfl (lv_at hl 1 rfl) ?_
          obtain rfl := Option.some.inj hF
          exact kR _ _ _ _ d_M_takes_86 rfl hP hD hS
        · have hF := it_n hF h22
          refine lv_iload_n hx hb d_M_takes_81 rfl (lv_at hl 0 rfl) ?_
          refine lv_goto (tgt := 86) hx hb d_M_takes_82 (by decide) ?_
          obtain rfl := Option.some.inj hF
          exact kR _ _ _ _ d_M_takes_86 rfl hP hD hS
      have hF := g16
      refine ln_if_ne hx hb b12 48 d_M_takes_41 (by decide) (fun h13 => ?_) (fun h13 => ?_)
      · have hF := it_p hF h13
        refine lv_iconst (v := nI 0) hx hb d_M_takes_48 (by decide) ?_
        obtain rfl := Option.some.inj hF
        have hl := lv_sub hl [0, 1] rfl
        exact k15 _ _ _ hl hP hD hS
      · have hF := it_n hF h13
        refine lv_iconst (v := nI 3) hx hb d_M_takes_44 (by decide) ?_
        refine lv_goto (tgt := 49) hx hb d_M_takes_45 (by decide) ?_
        obtain rfl := Option.some.inj hF
        have hl := lv_sub hl [0, 1] rfl
        exact k15 _ _ _ hl hP hD hS
    have hF := g10
    refine ln_if_ne hx hb b6 33 d_M_takes_26 (by decide) (fun h7 => ?_) (fun h7 => ?_)
    · have hF := it_p hF h7
      refine lv_iconst (v := nI 0) hx hb d_M_takes_33 (by decide) ?_
      obtain rfl := Option.some.inj hF
      have hl := lv_sub hl [0, 1] rfl
      exact k9 _ _ _ hl hP hD hS
    · have hF := it_n hF h7
      refine lv_iconst (v := nI 2) hx hb d_M_takes_29 (by decide) ?_
      refine lv_goto (tgt := 34) hx hb d_M_takes_30 (by decide) ?_
      obtain rfl := Option.some.inj hF
      have hl := lv_sub hl [0, 1] rfl
      exact k9 _ _ _ hl hP hD hS
  · have hF := it_n hF h4
    refine lv_iconst (v := nI 0) hx hb d_M_takes_15 (by decide) ?_
    obtain rfl := Option.some.inj hF
    exact kR _ _ _ _ d_M_takes_16 rfl hP hD hS
def fM_ready (x : ST) (s : Nat) : Option (Nat) := ob (fM_takes x s) (fun r1 => ss (s < 3) (ss (((x.2 5) s) ≤ ((x.2 6) s)) (ss (r1 < 2147483648) ((if r1 ≤ 0 then some 0 else ss ((((x.2 0) s) + r1) < 2147483648) ((if 28 < (((x.2 0) s) + r1) then some 0 else ob (fM_high x s) (fun r9 => ss ((r9 + r1) < 2147483648) (ss ((x.1 1) < 2147483648) ((if (x.1 1) < (r9 + r1) then some 0 else ss (((x.2 7) s) < 2147483648) ((if 0 < ((x.2 7) s) then some 1 else ss ((((x.2 6) s) - ((x.2 5) s)) < 2147483648) ((if 8 ≤ (((x.2 6) s) - ((x.2 5) s)) then some 0 else some 1)))))))))))))))
abbrev rm_M_ready : Room := { frames := 1, cells := 0, slots := 0, locals := 23 }
set_option maxHeartbeats 4000000 in
set_option maxRecDepth 100000 in
theorem cM_ready (l : Launch) (D : va_G) (ci : Nat → ClassId) (ad : Nat → Nat) (x : ST) (s : Nat) (o : Nat) (hF : fM_ready x s = some o) : CtI l y_M_ready w_M_ready rm_M_ready D vwCl (tyC ci) [.ref (ad 0), .int (nI s)] (wM ad ci x) (nI o) (wM ad ci x) := by
  refine ct_i (cc := b_M_ready) (maxL := 4) (plainFor_of_name (by decide)) rfl (Nat.le_of_ble_eq_true rfl) (fun p9 e9 s9 m9 args9 be9 me9 c9 A9 Q9 ls H0 hx hb hml hts hown hK hN hl hP hD hS hA kR => ?_)
  replace hl : lv_has ls 4 [(0, .ref (ad 0)), (1, .int (nI s))] := hl
  replace hP : va_P D vwCl [(ad 0, .inr (6, [.int (nI (x.1 0)), .int (nI (x.1 1)), .int (nI (x.1 2)), .ref (ad 1), .ref (ad 2), .ref (ad 3), .ref (ad 4), .ref (ad 5), .ref (ad 6), .ref (ad 7), .ref (ad 8), .ref (ad 9), .ref (ad 10), .int (nI (x.1 13)), .ref (ad 11), .ref (ad 12), .int (nI (x.1 16)), .int (nI (x.1 17)), .ref (ad 13), .ref (ad 14), .ref (ad 15), .ref (ad 16), .ref (ad 17), .ref (ad 18), .ref (ad 19), .ref (ad 20), .ref (ad 21), .ref (ad 22), .ref (ad 23), .ref (ad 24)])), (ad 1, .inl (ci 0, 3, .inl (nF (x.2 0)))), (ad 2, .inl (ci 0, 1536, .inl (nF (x.2 1)))), (ad 3, .inl (ci 0, 1536, .inl (nF (x.2 2)))), (ad 4, .inl (ci 0, 1536, .inl (nF (x.2 3)))), (ad 5, .inl (ci 0, 3, .inl (nF (x.2 4)))), (ad 6, .inl (ci 0, 3, .inl (nF (x.2 5)))), (ad 7, .inl (ci 0, 3, .inl (nF (x.2 6)))), (ad 8, .inl (ci 0, 3, .inl (nF (x.2 7)))), (ad 9, .inl (ci 0, 3, .inl (nF (x.2 8)))), (ad 10, .inl (ci 0, 3, .inl (nF (x.2 9)))), (ad 11, .inl (ci 0, 16, .inl (nF (x.2 10)))), (ad 12, .inl (ci 0, 16, .inl (nF (x.2 11)))), (ad 13, .inl (ci 1, 3, .inl (nF (x.2 12)))), (ad 14, .inl (ci 0, 3, .inl (nF (x.2 13)))), (ad 15, .inl (ci 1, 3, .inl (nF (x.2 14)))), (ad 16, .inl (ci 0, 3, .inl (nF (x.2 15)))), (ad 17, .inl (ci 0, 3, .inl (nF (x.2 16)))), (ad 18, .inl (ci 0, 3, .inl (nF (x.2 17)))), (ad 19, .inl (ci 0, 180, .inl (nF (x.2 18)))), (ad 20, .inl (ci 0, 180, .inl (nF (x.2 19)))), (ad 21, .inl (ci 0, 3, .inl (nF (x.2 20)))), (ad 22, .inl (ci 0, 3, .inl (nF (x.2 21)))), (ad 23, .inl (ci 0, 3, .inl (nF (x.2 22)))), (ad 24, .inl (ci 0, 6, .inl (nF (x.2 23))))] H0 := hP
  replace hD : va_D A9 [(ad 0, .inr (6, [.int (nI (x.1 0)), .int (nI (x.1 1)), .int (nI (x.1 2)), .ref (ad 1), .ref (ad 2), .ref (ad 3), .ref (ad 4), .ref (ad 5), .ref (ad 6), .ref (ad 7), .ref (ad 8), .ref (ad 9), .ref (ad 10), .int (nI (x.1 13)), .ref (ad 11), .ref (ad 12), .int (nI (x.1 16)), .int (nI (x.1 17)), .ref (ad 13), .ref (ad 14), .ref (ad 15), .ref (ad 16), .ref (ad 17), .ref (ad 18), .ref (ad 19), .ref (ad 20), .ref (ad 21), .ref (ad 22), .ref (ad 23), .ref (ad 24)])), (ad 1, .inl (ci 0, 3, .inl (nF (x.2 0)))), (ad 2, .inl (ci 0, 1536, .inl (nF (x.2 1)))), (ad 3, .inl (ci 0, 1536, .inl (nF (x.2 2)))), (ad 4, .inl (ci 0, 1536, .inl (nF (x.2 3)))), (ad 5, .inl (ci 0, 3, .inl (nF (x.2 4)))), (ad 6, .inl (ci 0, 3, .inl (nF (x.2 5)))), (ad 7, .inl (ci 0, 3, .inl (nF (x.2 6)))), (ad 8, .inl (ci 0, 3, .inl (nF (x.2 7)))), (ad 9, .inl (ci 0, 3, .inl (nF (x.2 8)))), (ad 10, .inl (ci 0, 3, .inl (nF (x.2 9)))), (ad 11, .inl (ci 0, 16, .inl (nF (x.2 10)))), (ad 12, .inl (ci 0, 16, .inl (nF (x.2 11)))), (ad 13, .inl (ci 1, 3, .inl (nF (x.2 12)))), (ad 14, .inl (ci 0, 3, .inl (nF (x.2 13)))), (ad 15, .inl (ci 1, 3, .inl (nF (x.2 14)))), (ad 16, .inl (ci 0, 3, .inl (nF (x.2 15)))), (ad 17, .inl (ci 0, 3, .inl (nF (x.2 16)))), (ad 18, .inl (ci 0, 3, .inl (nF (x.2 17)))), (ad 19, .inl (ci 0, 180, .inl (nF (x.2 18)))), (ad 20, .inl (ci 0, 180, .inl (nF (x.2 19)))), (ad 21, .inl (ci 0, 3, .inl (nF (x.2 20)))), (ad 22, .inl (ci 0, 3, .inl (nF (x.2 21)))), (ad 23, .inl (ci 0, 3, .inl (nF (x.2 22)))), (ad 24, .inl (ci 0, 6, .inl (nF (x.2 23))))] := hD
  replace hown : s9.vm.findClass R_M = some m9.cls := hown
  have hT : ∀ w ∈ lw_ok, w.before args9 s9 = true := fun w h => hts w (List.mem_cons_of_mem _ h)
  rw [fM_ready] at hF
  generalize hH : H0 = H at hP ⊢
  replace hS : va_S A9 H0 H [] := by rw [← hH]; exact hS
  clear hH
  generalize ([] : List Loc) = locs at hS ⊢
  refine lv_aload_n hx hb d_M_ready_0 rfl (lv_at hl 0 rfl) ?_
  refine lv_iload_n hx hb d_M_ready_1 rfl (lv_at hl 1 rfl) ?_
  obtain ⟨r1, g2, hF⟩ := ob_s hF
  refine ln_goiA (va_runV (As := [.int (nI s)]) (rest := []) ⟨hx, hb, hml, hown, hT⟩ (cM_takes l D ci ad x s _ g2 H.size) (cw_V 1 hT wd_560 wd_8 wd_563 wd_562 ws_M_takes (by decide +kernel) (by decide) (by decide)) (ln_preV 0 hK hN hP rfl rfl hP hD) rfl rfl hl.1 rfl (lv_room (Nat.le_of_ble_eq_true rfl)) d_M_ready_2 ⟨Nat.zero_le _, Nat.zero_le _⟩) hD hS hA (fun H locs hP hD hS => ?_)
  replace hP : va_P D vwCl [(ad 0, .inr (6, [.int (nI (x.1 0)), .int (nI (x.1 1)), .int (nI (x.1 2)), .ref (ad 1), .ref (ad 2), .ref (ad 3), .ref (ad 4), .ref (ad 5), .ref (ad 6), .ref (ad 7), .ref (ad 8), .ref (ad 9), .ref (ad 10), .int (nI (x.1 13)), .ref (ad 11), .ref (ad 12), .int (nI (x.1 16)), .int (nI (x.1 17)), .ref (ad 13), .ref (ad 14), .ref (ad 15), .ref (ad 16), .ref (ad 17), .ref (ad 18), .ref (ad 19), .ref (ad 20), .ref (ad 21), .ref (ad 22), .ref (ad 23), .ref (ad 24)])), (ad 1, .inl (ci 0, 3, .inl (nF (x.2 0)))), (ad 2, .inl (ci 0, 1536, .inl (nF (x.2 1)))), (ad 3, .inl (ci 0, 1536, .inl (nF (x.2 2)))), (ad 4, .inl (ci 0, 1536, .inl (nF (x.2 3)))), (ad 5, .inl (ci 0, 3, .inl (nF (x.2 4)))), (ad 6, .inl (ci 0, 3, .inl (nF (x.2 5)))), (ad 7, .inl (ci 0, 3, .inl (nF (x.2 6)))), (ad 8, .inl (ci 0, 3, .inl (nF (x.2 7)))), (ad 9, .inl (ci 0, 3, .inl (nF (x.2 8)))), (ad 10, .inl (ci 0, 3, .inl (nF (x.2 9)))), (ad 11, .inl (ci 0, 16, .inl (nF (x.2 10)))), (ad 12, .inl (ci 0, 16, .inl (nF (x.2 11)))), (ad 13, .inl (ci 1, 3, .inl (nF (x.2 12)))), (ad 14, .inl (ci 0, 3, .inl (nF (x.2 13)))), (ad 15, .inl (ci 1, 3, .inl (nF (x.2 14)))), (ad 16, .inl (ci 0, 3, .inl (nF (x.2 15)))), (ad 17, .inl (ci 0, 3, .inl (nF (x.2 16)))), (ad 18, .inl (ci 0, 3, .inl (nF (x.2 17)))), (ad 19, .inl (ci 0, 180, .inl (nF (x.2 18)))), (ad 20, .inl (ci 0, 180, .inl (nF (x.2 19)))), (ad 21, .inl (ci 0, 3, .inl (nF (x.2 20)))), (ad 22, .inl (ci 0, 3, .inl (nF (x.2 21)))), (ad 23, .inl (ci 0, 3, .inl (nF (x.2 22)))), (ad 24, .inl (ci 0, 6, .inl (nF (x.2 23))))] H := hP
  replace hD : va_D A9 [(ad 0, .inr (6, [.int (nI (x.1 0)), .int (nI (x.1 1)), .int (nI (x.1 2)), .ref (ad 1), .ref (ad 2), .ref (ad 3), .ref (ad 4), .ref (ad 5), .ref (ad 6), .ref (ad 7), .ref (ad 8), .ref (ad 9), .ref (ad 10), .int (nI (x.1 13)), .ref (ad 11), .ref (ad 12), .int (nI (x.1 16)), .int (nI (x.1 17)), .ref (ad 13), .ref (ad 14), .ref (ad 15), .ref (ad 16), .ref (ad 17), .ref (ad 18), .ref (ad 19), .ref (ad 20), .ref (ad 21), .ref (ad 22), .ref (ad 23), .ref (ad 24)])), (ad 1, .inl (ci 0, 3, .inl (nF (x.2 0)))), (ad 2, .inl (ci 0, 1536, .inl (nF (x.2 1)))), (ad 3, .inl (ci 0, 1536, .inl (nF (x.2 2)))), (ad 4, .inl (ci 0, 1536, .inl (nF (x.2 3)))), (ad 5, .inl (ci 0, 3, .inl (nF (x.2 4)))), (ad 6, .inl (ci 0, 3, .inl (nF (x.2 5)))), (ad 7, .inl (ci 0, 3, .inl (nF (x.2 6)))), (ad 8, .inl (ci 0, 3, .inl (nF (x.2 7)))), (ad 9, .inl (ci 0, 3, .inl (nF (x.2 8)))), (ad 10, .inl (ci 0, 3, .inl (nF (x.2 9)))), (ad 11, .inl (ci 0, 16, .inl (nF (x.2 10)))), (ad 12, .inl (ci 0, 16, .inl (nF (x.2 11)))), (ad 13, .inl (ci 1, 3, .inl (nF (x.2 12)))), (ad 14, .inl (ci 0, 3, .inl (nF (x.2 13)))), (ad 15, .inl (ci 1, 3, .inl (nF (x.2 14)))), (ad 16, .inl (ci 0, 3, .inl (nF (x.2 15)))), (ad 17, .inl (ci 0, 3, .inl (nF (x.2 16)))), (ad 18, .inl (ci 0, 3, .inl (nF (x.2 17)))), (ad 19, .inl (ci 0, 180, .inl (nF (x.2 18)))), (ad 20, .inl (ci 0, 180, .inl (nF (x.2 19)))), (ad 21, .inl (ci 0, 3, .inl (nF (x.2 20)))), (ad 22, .inl (ci 0, 3, .inl (nF (x.2 21)))), (ad 23, .inl (ci 0, 3, .inl (nF (x.2 22)))), (ad 24, .inl (ci 0, 6, .inl (nF (x.2 23))))] := hD
  refine lv_istore_n hx hb d_M_ready_5 rfl hl (by decide) rfl (fun ls hl => ?_)
  replace hl : lv_has ls 4 [(2, .int (nI r1)), (0, .ref (ad 0)), (1, .int (nI s))] := hl
  refine lv_aload_n hx hb d_M_ready_6 rfl (lv_at hl 1 rfl) ?_
  refine va_get (D := D) (ci := 6) (v := .ref (ad 7)) (C := R_M) (T := F_M) (N := 30) hx hb hT in_M hown hK hP 0 rfl rfl 9 (by decide) (hT _ wd_442) (fun _ h9 => h9) rfl d_M_ready_7 ?_
  refine lv_iload_n hx hb d_M_ready_10 rfl (lv_at hl 2 rfl) ?_
  obtain ⟨b3, hF⟩ := ss_s hF
  refine ln_ald hx hb hK hP 7 0 rfl rfl b3 (by decide) d_M_ready_11 ?_
  refine lv_aload_n hx hb d_M_ready_12 rfl (lv_at hl 1 rfl) ?_
  refine va_get (D := D) (ci := 6) (v := .ref (ad 6)) (C := R_M) (T := F_M) (N := 30) hx hb hT in_M hown hK hP 0 rfl rfl 8 (by decide) (hT _ wd_441) (fun _ h9 => h9) rfl d_M_ready_13 ?_
  refine lv_iload_n hx hb d_M_ready_16 rfl (lv_at hl 2 rfl) ?_
  refine ln_ald hx hb hK hP 6 0 rfl rfl b3 (by decide) d_M_ready_17 ?_
  obtain ⟨b4, hF⟩ := ss_s hF
  refine ln_isub hx hb b4 d_M_ready_18 ?_
  refine lv_istore_n hx hb d_M_ready_19 rfl hl (by decide) rfl (fun ls hl => ?_)
  replace hl : lv_has ls 4 [(3, .int (nI (((x.2 6) s) - ((x.2 5) s)))), (2, .int (nI r1)), (0, .ref (ad 0)), (1, .int (nI s))] := hl
  refine lv_iload_n hx hb d_M_ready_20 rfl (lv_at hl 1 rfl) ?_
  obtain ⟨b5, hF⟩ := ss_s hF
  refine ln_if_le hx hb b5 70 d_M_ready_21 (by decide) (fun h6 => ?_) (fun h6 => ?_)
  · have hF := it_p hF h6
    refine lv_iconst (v := nI 0) hx hb d_M_ready_70 (by decide) ?_
    obtain rfl := Option.some.inj hF
    exact kR _ _ _ _ d_M_ready_71 (nar_b (x := 0) (by decide)) hP hD hS
  · have hF := it_n hF h6
    refine lv_aload_n hx hb d_M_ready_24 rfl (lv_at hl 2 rfl) ?_
    refine va_get (D := D) (ci := 6) (v := .ref (ad 1)) (C := R_M) (T := F_M) (N := 30) hx hb hT in_M hown hK hP 0 rfl rfl 3 (by decide) (hT _ wd_436) (fun _ h9 => h9) rfl d_M_ready_25 ?_
    refine lv_iload_n hx hb d_M_ready_28 rfl (lv_at hl 3 rfl) ?_
    refine ln_ald hx hb hK hP 1 0 rfl rfl b3 (by decide) d_M_ready_29 ?_
    refine lv_iload_n hx hb d_M_ready_30 rfl (lv_at hl 1 rfl) ?_
    refine ln_iadd hx hb d_M_ready_31 ?_
    refine lv_bipush (v := nI 28) hx hb d_M_ready_32 (by decide) ?_
    obtain ⟨b7, hF⟩ := ss_s hF
    refine ln_icmp_gt hx hb b7 (by decide) 70 d_M_ready_34 (by decide) (fun h8 => ?_) (fun h8 => ?_)
    · have hF := it_p hF h8
      refine lv_iconst (v := nI 0) hx hb d_M_ready_70 (by decide) ?_
      obtain rfl := Option.some.inj hF
      exact kR _ _ _ _ d_M_ready_71 (nar_b (x := 0) (by decide)) hP hD hS
    · have hF := it_n hF h8
      refine lv_aload_n hx hb d_M_ready_37 rfl (lv_at hl 2 rfl) ?_
      refine lv_iload_n hx hb d_M_ready_38 rfl (lv_at hl 3 rfl) ?_
      obtain ⟨r9, g10, hF⟩ := ob_s hF
      refine ln_goiA (va_runV (As := [.int (nI s)]) (rest := []) ⟨hx, hb, hml, hown, hT⟩ (cM_high l D ci ad x s _ g10 H.size) (cw_V 1 hT wd_564 wd_8 wd_567 wd_566 ws_M_high (by decide +kernel) (by decide) (by decide)) (ln_preV 0 hK hN hP rfl rfl hP hD) rfl rfl hl.1 rfl (lv_room (Nat.le_of_ble_eq_true rfl)) d_M_ready_39 ⟨Nat.zero_le _, Nat.zero_le _⟩) hD hS hA (fun H locs hP hD hS => ?_)
      replace hP : va_P D vwCl [(ad 0, .inr (6, [.int (nI (x.1 0)), .int (nI (x.1 1)), .int (nI (x.1 2)), .ref (ad 1), .ref (ad 2), .ref (ad 3), .ref (ad 4), .ref (ad 5), .ref (ad 6), .ref (ad 7), .ref (ad 8), .ref (ad 9), .ref (ad 10), .int (nI (x.1 13)), .ref (ad 11), .ref (ad 12), .int (nI (x.1 16)), .int (nI (x.1 17)), .ref (ad 13), .ref (ad 14), .ref (ad 15), .ref (ad 16), .ref (ad 17), .ref (ad 18), .ref (ad 19), .ref (ad 20), .ref (ad 21), .ref (ad 22), .ref (ad 23), .ref (ad 24)])), (ad 1, .inl (ci 0, 3, .inl (nF (x.2 0)))), (ad 2, .inl (ci 0, 1536, .inl (nF (x.2 1)))), (ad 3, .inl (ci 0, 1536, .inl (nF (x.2 2)))), (ad 4, .inl (ci 0, 1536, .inl (nF (x.2 3)))), (ad 5, .inl (ci 0, 3, .inl (nF (x.2 4)))), (ad 6, .inl (ci 0, 3, .inl (nF (x.2 5)))), (ad 7, .inl (ci 0, 3, .inl (nF (x.2 6)))), (ad 8, .inl (ci 0, 3, .inl (nF (x.2 7)))), (ad 9, .inl (ci 0, 3, .inl (nF (x.2 8)))), (ad 10, .inl (ci 0, 3, .inl (nF (x.2 9)))), (ad 11, .inl (ci 0, 16, .inl (nF (x.2 10)))), (ad 12, .inl (ci 0, 16, .inl (nF (x.2 11)))), (ad 13, .inl (ci 1, 3, .inl (nF (x.2 12)))), (ad 14, .inl (ci 0, 3, .inl (nF (x.2 13)))), (ad 15, .inl (ci 1, 3, .inl (nF (x.2 14)))), (ad 16, .inl (ci 0, 3, .inl (nF (x.2 15)))), (ad 17, .inl (ci 0, 3, .inl (nF (x.2 16)))), (ad 18, .inl (ci 0, 3, .inl (nF (x.2 17)))), (ad 19, .inl (ci 0, 180, .inl (nF (x.2 18)))), (ad 20, .inl (ci 0, 180, .inl (nF (x.2 19)))), (ad 21, .inl (ci 0, 3, .inl (nF (x.2 20)))), (ad 22, .inl (ci 0, 3, .inl (nF (x.2 21)))), (ad 23, .inl (ci 0, 3, .inl (nF (x.2 22)))), (ad 24, .inl (ci 0, 6, .inl (nF (x.2 23))))] H := hP
      replace hD : va_D A9 [(ad 0, .inr (6, [.int (nI (x.1 0)), .int (nI (x.1 1)), .int (nI (x.1 2)), .ref (ad 1), .ref (ad 2), .ref (ad 3), .ref (ad 4), .ref (ad 5), .ref (ad 6), .ref (ad 7), .ref (ad 8), .ref (ad 9), .ref (ad 10), .int (nI (x.1 13)), .ref (ad 11), .ref (ad 12), .int (nI (x.1 16)), .int (nI (x.1 17)), .ref (ad 13), .ref (ad 14), .ref (ad 15), .ref (ad 16), .ref (ad 17), .ref (ad 18), .ref (ad 19), .ref (ad 20), .ref (ad 21), .ref (ad 22), .ref (ad 23), .ref (ad 24)])), (ad 1, .inl (ci 0, 3, .inl (nF (x.2 0)))), (ad 2, .inl (ci 0, 1536, .inl (nF (x.2 1)))), (ad 3, .inl (ci 0, 1536, .inl (nF (x.2 2)))), (ad 4, .inl (ci 0, 1536, .inl (nF (x.2 3)))), (ad 5, .inl (ci 0, 3, .inl (nF (x.2 4)))), (ad 6, .inl (ci 0, 3, .inl (nF (x.2 5)))), (ad 7, .inl (ci 0, 3, .inl (nF (x.2 6)))), (ad 8, .inl (ci 0, 3, .inl (nF (x.2 7)))), (ad 9, .inl (ci 0, 3, .inl (nF (x.2 8)))), (ad 10, .inl (ci 0, 3, .inl (nF (x.2 9)))), (ad 11, .inl (ci 0, 16, .inl (nF (x.2 10)))), (ad 12, .inl (ci 0, 16, .inl (nF (x.2 11)))), (ad 13, .inl (ci 1, 3, .inl (nF (x.2 12)))), (ad 14, .inl (ci 0, 3, .inl (nF (x.2 13)))), (ad 15, .inl (ci 1, 3, .inl (nF (x.2 14)))), (ad 16, .inl (ci 0, 3, .inl (nF (x.2 15)))), (ad 17, .inl (ci 0, 3, .inl (nF (x.2 16)))), (ad 18, .inl (ci 0, 3, .inl (nF (x.2 17)))), (ad 19, .inl (ci 0, 180, .inl (nF (x.2 18)))), (ad 20, .inl (ci 0, 180, .inl (nF (x.2 19)))), (ad 21, .inl (ci 0, 3, .inl (nF (x.2 20)))), (ad 22, .inl (ci 0, 3, .inl (nF (x.2 21)))), (ad 23, .inl (ci 0, 3, .inl (nF (x.2 22)))), (ad 24, .inl (ci 0, 6, .inl (nF (x.2 23))))] := hD
      refine lv_iload_n hx hb d_M_ready_42 rfl (lv_at hl 1 rfl) ?_
      refine ln_iadd hx hb d_M_ready_43 ?_
      refine lv_aload_n hx hb d_M_ready_44 rfl (lv_at hl 2 rfl) ?_
      refine va_get (D := D) (ci := 6) (v := .int (nI (x.1 1))) (C := R_M) (T := F_M) (N := 30) hx hb hT in_M hown hK hP 0 rfl rfl 1 (by decide) (hT _ wd_434) (fun _ h9 => h9) rfl d_M_ready_45 ?_
      obtain ⟨b11, hF⟩ := ss_s hF
      obtain ⟨b12, hF⟩ := ss_s hF
      refine ln_icmp_gt hx hb b11 b12 70 d_M_ready_48 (by decide) (fun h13 => ?_) (fun h13 => ?_)
      · have hF := it_p hF h13
        refine lv_iconst (v := nI 0) hx hb d_M_ready_70 (by decide) ?_
        obtain rfl := Option.some.inj hF
        exact kR _ _ _ _ d_M_ready_71 (nar_b (x := 0) (by decide)) hP hD hS
      · have hF := it_n hF h13
        refine lv_aload_n hx hb d_M_ready_51 rfl (lv_at hl 2 rfl) ?_
        refine va_get (D := D) (ci := 6) (v := .ref (ad 8)) (C := R_M) (T := F_M) (N := 30) hx hb hT in_M hown hK hP 0 rfl rfl 10 (by decide) (hT _ wd_443) (fun _ h9 => h9) rfl d_M_ready_52 ?_
        refine lv_iload_n hx hb d_M_ready_55 rfl (lv_at hl 3 rfl) ?_
        refine ln_ald hx hb hK hP 8 0 rfl rfl b3 (by decide) d_M_ready_56 ?_
        obtain ⟨b14, hF⟩ := ss_s hF
        refine ln_if_gt hx hb b14 66 d_M_ready_57 (by decide) (fun h15 => ?_) (fun h15 => ?_)
        · have hF := it_p hF h15
          refine lv_iconst (v := nI 1) hx hb d_M_ready_66 (by decide) ?_
          refine lv_goto (tgt := 71) hx hb d_M_ready_67 (by decide) ?_
          obtain rfl := Option.some.inj hF
          exact kR _ _ _ _ d_M_ready_71 (nar_b (x := 1) (by decide)) hP hD hS
        · have hF := it_n hF h15
          refine lv_iload_n hx hb d_M_ready_60 rfl (lv_at hl 0 rfl) ?_
          refine lv_bipush (v := nI 8) hx hb d_M_ready_61 (by decide) ?_
          obtain ⟨b16, hF⟩ := ss_s hF
          refine ln_icmp_ge hx hb b16 (by decide) 70 d_M_ready_63 (by decide) (fun h17 => ?_) (fun h17 => ?_)
          · have hF := it_p hF h17
            refine lv_iconst (v := nI 0) hx hb d_M_ready_70 (by decide) ?_
            obtain rfl := Option.some.inj hF
            exact kR _ _ _ _ d_M_ready_71 (nar_b (x := 0) (by decide)) hP hD hS
          · have hF := it_n hF h17
            refine lv_iconst (v := nI 1) hx hb d_M_ready_66 (by decide) ?_
            refine lv_goto (tgt := 71) hx hb d_M_ready_67 (by decide) ?_
            obtain rfl := Option.some.inj hF
            exact kR _ _ _ _ d_M_ready_71 (nar_b (x := 1) (by decide)) hP hD hS
def fM_chosen_L6 (x : ST) : Nat → Nat → Nat → Nat → Option (Nat × Nat × Nat)
  | 0, _, _, _ => none
  | fu + 1, i1, i2, i3 => ss (i3 < 2147483648) ((if 3 ≤ i3 then some (i1, i2, i3) else ob (fM_ready x i3) (fun r9 => ss (r9 < 2147483648) (ob (α := Nat) (if r9 = 0 then (some 0 : Option (Nat)) else ss (i3 < 3) (ss (((512 * i3) + ((x.2 6) i3)) < 1536) ((some ((x.2 2) ((512 * i3) + ((x.2 6) i3))) : Option (Nat))))) (fun j13 => ob (α := Nat × Nat) (if r9 = 0 then (some (i1, i2) : Option (Nat × Nat)) else ss (i1 < 2147483648) ((if i1 = 3 then (some (i3, j13) : Option (Nat × Nat)) else ss (j13 < 2147483648) (ss (i2 < 2147483648) ((if i2 ≤ j13 then (some (i1, i2) : Option (Nat × Nat)) else (some (i3, j13) : Option (Nat × Nat)))))))) (fun j19 => fM_chosen_L6 x fu j19.1 j19.2 (i3 + 1)))))))
def fM_chosen (x : ST)  : Option (Nat) := ob (fM_chosen_L6 x 100 3 0 0) (fun o4 => some o4.1)
abbrev rm_M_chosen : Room := { frames := 2, cells := 0, slots := 0, locals := 46 }
set_option maxHeartbeats 4000000 in
set_option maxRecDepth 100000 in
theorem cM_chosen (l : Launch) (D : va_G) (ci : Nat → ClassId) (ad : Nat → Nat) (x : ST)  (o : Nat) (hF : fM_chosen x = some o) : CtI l y_M_chosen w_M_chosen rm_M_chosen D vwCl (tyC ci) [.ref (ad 0)] (wM ad ci x) (nI o) (wM ad ci x) := by
  refine ct_i (cc := b_M_chosen) (maxL := 6) (plainFor_of_name (by decide)) rfl (Nat.le_of_ble_eq_true rfl) (fun p9 e9 s9 m9 args9 be9 me9 c9 A9 Q9 ls H0 hx hb hml hts hown hK hN hl hP hD hS hA kR => ?_)
  replace hl : lv_has ls 6 [(0, .ref (ad 0))] := hl
  replace hP : va_P D vwCl [(ad 0, .inr (6, [.int (nI (x.1 0)), .int (nI (x.1 1)), .int (nI (x.1 2)), .ref (ad 1), .ref (ad 2), .ref (ad 3), .ref (ad 4), .ref (ad 5), .ref (ad 6), .ref (ad 7), .ref (ad 8), .ref (ad 9), .ref (ad 10), .int (nI (x.1 13)), .ref (ad 11), .ref (ad 12), .int (nI (x.1 16)), .int (nI (x.1 17)), .ref (ad 13), .ref (ad 14), .ref (ad 15), .ref (ad 16), .ref (ad 17), .ref (ad 18), .ref (ad 19), .ref (ad 20), .ref (ad 21), .ref (ad 22), .ref (ad 23), .ref (ad 24)])), (ad 1, .inl (ci 0, 3, .inl (nF (x.2 0)))), (ad 2, .inl (ci 0, 1536, .inl (nF (x.2 1)))), (ad 3, .inl (ci 0, 1536, .inl (nF (x.2 2)))), (ad 4, .inl (ci 0, 1536, .inl (nF (x.2 3)))), (ad 5, .inl (ci 0, 3, .inl (nF (x.2 4)))), (ad 6, .inl (ci 0, 3, .inl (nF (x.2 5)))), (ad 7, .inl (ci 0, 3, .inl (nF (x.2 6)))), (ad 8, .inl (ci 0, 3, .inl (nF (x.2 7)))), (ad 9, .inl (ci 0, 3, .inl (nF (x.2 8)))), (ad 10, .inl (ci 0, 3, .inl (nF (x.2 9)))), (ad 11, .inl (ci 0, 16, .inl (nF (x.2 10)))), (ad 12, .inl (ci 0, 16, .inl (nF (x.2 11)))), (ad 13, .inl (ci 1, 3, .inl (nF (x.2 12)))), (ad 14, .inl (ci 0, 3, .inl (nF (x.2 13)))), (ad 15, .inl (ci 1, 3, .inl (nF (x.2 14)))), (ad 16, .inl (ci 0, 3, .inl (nF (x.2 15)))), (ad 17, .inl (ci 0, 3, .inl (nF (x.2 16)))), (ad 18, .inl (ci 0, 3, .inl (nF (x.2 17)))), (ad 19, .inl (ci 0, 180, .inl (nF (x.2 18)))), (ad 20, .inl (ci 0, 180, .inl (nF (x.2 19)))), (ad 21, .inl (ci 0, 3, .inl (nF (x.2 20)))), (ad 22, .inl (ci 0, 3, .inl (nF (x.2 21)))), (ad 23, .inl (ci 0, 3, .inl (nF (x.2 22)))), (ad 24, .inl (ci 0, 6, .inl (nF (x.2 23))))] H0 := hP
  replace hD : va_D A9 [(ad 0, .inr (6, [.int (nI (x.1 0)), .int (nI (x.1 1)), .int (nI (x.1 2)), .ref (ad 1), .ref (ad 2), .ref (ad 3), .ref (ad 4), .ref (ad 5), .ref (ad 6), .ref (ad 7), .ref (ad 8), .ref (ad 9), .ref (ad 10), .int (nI (x.1 13)), .ref (ad 11), .ref (ad 12), .int (nI (x.1 16)), .int (nI (x.1 17)), .ref (ad 13), .ref (ad 14), .ref (ad 15), .ref (ad 16), .ref (ad 17), .ref (ad 18), .ref (ad 19), .ref (ad 20), .ref (ad 21), .ref (ad 22), .ref (ad 23), .ref (ad 24)])), (ad 1, .inl (ci 0, 3, .inl (nF (x.2 0)))), (ad 2, .inl (ci 0, 1536, .inl (nF (x.2 1)))), (ad 3, .inl (ci 0, 1536, .inl (nF (x.2 2)))), (ad 4, .inl (ci 0, 1536, .inl (nF (x.2 3)))), (ad 5, .inl (ci 0, 3, .inl (nF (x.2 4)))), (ad 6, .inl (ci 0, 3, .inl (nF (x.2 5)))), (ad 7, .inl (ci 0, 3, .inl (nF (x.2 6)))), (ad 8, .inl (ci 0, 3, .inl (nF (x.2 7)))), (ad 9, .inl (ci 0, 3, .inl (nF (x.2 8)))), (ad 10, .inl (ci 0, 3, .inl (nF (x.2 9)))), (ad 11, .inl (ci 0, 16, .inl (nF (x.2 10)))), (ad 12, .inl (ci 0, 16, .inl (nF (x.2 11)))), (ad 13, .inl (ci 1, 3, .inl (nF (x.2 12)))), (ad 14, .inl (ci 0, 3, .inl (nF (x.2 13)))), (ad 15, .inl (ci 1, 3, .inl (nF (x.2 14)))), (ad 16, .inl (ci 0, 3, .inl (nF (x.2 15)))), (ad 17, .inl (ci 0, 3, .inl (nF (x.2 16)))), (ad 18, .inl (ci 0, 3, .inl (nF (x.2 17)))), (ad 19, .inl (ci 0, 180, .inl (nF (x.2 18)))), (ad 20, .inl (ci 0, 180, .inl (nF (x.2 19)))), (ad 21, .inl (ci 0, 3, .inl (nF (x.2 20)))), (ad 22, .inl (ci 0, 3, .inl (nF (x.2 21)))), (ad 23, .inl (ci 0, 3, .inl (nF (x.2 22)))), (ad 24, .inl (ci 0, 6, .inl (nF (x.2 23))))] := hD
  replace hown : s9.vm.findClass R_M = some m9.cls := hown
  have hT : ∀ w ∈ lw_ok, w.before args9 s9 = true := fun w h => hts w (List.mem_cons_of_mem _ h)
  rw [fM_chosen] at hF
  generalize hH : H0 = H at hP ⊢
  replace hS : va_S A9 H0 H [] := by rw [← hH]; exact hS
  clear hH
  generalize ([] : List Loc) = locs at hS ⊢
  refine lv_iconst (v := nI 3) hx hb d_M_chosen_0 (by decide) ?_
  refine lv_istore_n hx hb d_M_chosen_1 rfl hl (by decide) rfl (fun ls hl => ?_)
  replace hl : lv_has ls 6 [(1, .int (nI 3)), (0, .ref (ad 0))] := hl
  refine lv_iconst (v := nI 0) hx hb d_M_chosen_2 (by decide) ?_
  refine lv_istore_n hx hb d_M_chosen_3 rfl hl (by decide) rfl (fun ls hl => ?_)
  replace hl : lv_has ls 6 [(2, .int (nI 0)), (1, .int (nI 3)), (0, .ref (ad 0))] := hl
  refine lv_iconst (v := nI 0) hx hb d_M_chosen_4 (by decide) ?_
  refine lv_istore_n hx hb d_M_chosen_5 rfl hl (by decide) rfl (fun ls hl => ?_)
  replace hl : lv_has ls 6 [(3, .int (nI 0)), (2, .int (nI 0)), (1, .int (nI 3)), (0, .ref (ad 0))] := hl
  have L27 : ∀ (fu : Nat) (i1 : Nat) (i2 : Nat) (i3 : Nat) (o4 : Nat × Nat × Nat) (ls : Array Slot) (H : Heap) (locs : List Loc), fM_chosen_L6 x fu i1 i2 i3 = some o4 → lv_has ls 6 [(0, .ref (ad 0)), (1, .int (nI i1)), (2, .int (nI i2)), (3, .int (nI i3))] → va_P D vwCl [(ad 0, .inr (6, [.int (nI (x.1 0)), .int (nI (x.1 1)), .int (nI (x.1 2)), .ref (ad 1), .ref (ad 2), .ref (ad 3), .ref (ad 4), .ref (ad 5), .ref (ad 6), .ref (ad 7), .ref (ad 8), .ref (ad 9), .ref (ad 10), .int (nI (x.1 13)), .ref (ad 11), .ref (ad 12), .int (nI (x.1 16)), .int (nI (x.1 17)), .ref (ad 13), .ref (ad 14), .ref (ad 15), .ref (ad 16), .ref (ad 17), .ref (ad 18), .ref (ad 19), .ref (ad 20), .ref (ad 21), .ref (ad 22), .ref (ad 23), .ref (ad 24)])), (ad 1, .inl (ci 0, 3, .inl (nF (x.2 0)))), (ad 2, .inl (ci 0, 1536, .inl (nF (x.2 1)))), (ad 3, .inl (ci 0, 1536, .inl (nF (x.2 2)))), (ad 4, .inl (ci 0, 1536, .inl (nF (x.2 3)))), (ad 5, .inl (ci 0, 3, .inl (nF (x.2 4)))), (ad 6, .inl (ci 0, 3, .inl (nF (x.2 5)))), (ad 7, .inl (ci 0, 3, .inl (nF (x.2 6)))), (ad 8, .inl (ci 0, 3, .inl (nF (x.2 7)))), (ad 9, .inl (ci 0, 3, .inl (nF (x.2 8)))), (ad 10, .inl (ci 0, 3, .inl (nF (x.2 9)))), (ad 11, .inl (ci 0, 16, .inl (nF (x.2 10)))), (ad 12, .inl (ci 0, 16, .inl (nF (x.2 11)))), (ad 13, .inl (ci 1, 3, .inl (nF (x.2 12)))), (ad 14, .inl (ci 0, 3, .inl (nF (x.2 13)))), (ad 15, .inl (ci 1, 3, .inl (nF (x.2 14)))), (ad 16, .inl (ci 0, 3, .inl (nF (x.2 15)))), (ad 17, .inl (ci 0, 3, .inl (nF (x.2 16)))), (ad 18, .inl (ci 0, 3, .inl (nF (x.2 17)))), (ad 19, .inl (ci 0, 180, .inl (nF (x.2 18)))), (ad 20, .inl (ci 0, 180, .inl (nF (x.2 19)))), (ad 21, .inl (ci 0, 3, .inl (nF (x.2 20)))), (ad 22, .inl (ci 0, 3, .inl (nF (x.2 21)))), (ad 23, .inl (ci 0, 3, .inl (nF (x.2 22)))), (ad 24, .inl (ci 0, 6, .inl (nF (x.2 23))))] H → va_D A9 [(ad 0, .inr (6, [.int (nI (x.1 0)), .int (nI (x.1 1)), .int (nI (x.1 2)), .ref (ad 1), .ref (ad 2), .ref (ad 3), .ref (ad 4), .ref (ad 5), .ref (ad 6), .ref (ad 7), .ref (ad 8), .ref (ad 9), .ref (ad 10), .int (nI (x.1 13)), .ref (ad 11), .ref (ad 12), .int (nI (x.1 16)), .int (nI (x.1 17)), .ref (ad 13), .ref (ad 14), .ref (ad 15), .ref (ad 16), .ref (ad 17), .ref (ad 18), .ref (ad 19), .ref (ad 20), .ref (ad 21), .ref (ad 22), .ref (ad 23), .ref (ad 24)])), (ad 1, .inl (ci 0, 3, .inl (nF (x.2 0)))), (ad 2, .inl (ci 0, 1536, .inl (nF (x.2 1)))), (ad 3, .inl (ci 0, 1536, .inl (nF (x.2 2)))), (ad 4, .inl (ci 0, 1536, .inl (nF (x.2 3)))), (ad 5, .inl (ci 0, 3, .inl (nF (x.2 4)))), (ad 6, .inl (ci 0, 3, .inl (nF (x.2 5)))), (ad 7, .inl (ci 0, 3, .inl (nF (x.2 6)))), (ad 8, .inl (ci 0, 3, .inl (nF (x.2 7)))), (ad 9, .inl (ci 0, 3, .inl (nF (x.2 8)))), (ad 10, .inl (ci 0, 3, .inl (nF (x.2 9)))), (ad 11, .inl (ci 0, 16, .inl (nF (x.2 10)))), (ad 12, .inl (ci 0, 16, .inl (nF (x.2 11)))), (ad 13, .inl (ci 1, 3, .inl (nF (x.2 12)))), (ad 14, .inl (ci 0, 3, .inl (nF (x.2 13)))), (ad 15, .inl (ci 1, 3, .inl (nF (x.2 14)))), (ad 16, .inl (ci 0, 3, .inl (nF (x.2 15)))), (ad 17, .inl (ci 0, 3, .inl (nF (x.2 16)))), (ad 18, .inl (ci 0, 3, .inl (nF (x.2 17)))), (ad 19, .inl (ci 0, 180, .inl (nF (x.2 18)))), (ad 20, .inl (ci 0, 180, .inl (nF (x.2 19)))), (ad 21, .inl (ci 0, 3, .inl (nF (x.2 20)))), (ad 22, .inl (ci 0, 3, .inl (nF (x.2 21)))), (ad 23, .inl (ci 0, 3, .inl (nF (x.2 22)))), (ad 24, .inl (ci 0, 6, .inl (nF (x.2 23))))] → va_S A9 H0 H locs → (∀ (ls : Array Slot) (H : Heap) (locs : List Loc), lv_has ls 6 [(0, .ref (ad 0)), (1, .int (nI o4.1)), (2, .int (nI o4.2.1)), (3, .int (nI o4.2.2))] → va_P D vwCl [(ad 0, .inr (6, [.int (nI (x.1 0)), .int (nI (x.1 1)), .int (nI (x.1 2)), .ref (ad 1), .ref (ad 2), .ref (ad 3), .ref (ad 4), .ref (ad 5), .ref (ad 6), .ref (ad 7), .ref (ad 8), .ref (ad 9), .ref (ad 10), .int (nI (x.1 13)), .ref (ad 11), .ref (ad 12), .int (nI (x.1 16)), .int (nI (x.1 17)), .ref (ad 13), .ref (ad 14), .ref (ad 15), .ref (ad 16), .ref (ad 17), .ref (ad 18), .ref (ad 19), .ref (ad 20), .ref (ad 21), .ref (ad 22), .ref (ad 23), .ref (ad 24)])), (ad 1, .inl (ci 0, 3, .inl (nF (x.2 0)))), (ad 2, .inl (ci 0, 1536, .inl (nF (x.2 1)))), (ad 3, .inl (ci 0, 1536, .inl (nF (x.2 2)))), (ad 4, .inl (ci 0, 1536, .inl (nF (x.2 3)))), (ad 5, .inl (ci 0, 3, .inl (nF (x.2 4)))), (ad 6, .inl (ci 0, 3, .inl (nF (x.2 5)))), (ad 7, .inl (ci 0, 3, .inl (nF (x.2 6)))), (ad 8, .inl (ci 0, 3, .inl (nF (x.2 7)))), (ad 9, .inl (ci 0, 3, .inl (nF (x.2 8)))), (ad 10, .inl (ci 0, 3, .inl (nF (x.2 9)))), (ad 11, .inl (ci 0, 16, .inl (nF (x.2 10)))), (ad 12, .inl (ci 0, 16, .inl (nF (x.2 11)))), (ad 13, .inl (ci 1, 3, .inl (nF (x.2 12)))), (ad 14, .inl (ci 0, 3, .inl (nF (x.2 13)))), (ad 15, .inl (ci 1, 3, .inl (nF (x.2 14)))), (ad 16, .inl (ci 0, 3, .inl (nF (x.2 15)))), (ad 17, .inl (ci 0, 3, .inl (nF (x.2 16)))), (ad 18, .inl (ci 0, 3, .inl (nF (x.2 17)))), (ad 19, .inl (ci 0, 180, .inl (nF (x.2 18)))), (ad 20, .inl (ci 0, 180, .inl (nF (x.2 19)))), (ad 21, .inl (ci 0, 3, .inl (nF (x.2 20)))), (ad 22, .inl (ci 0, 3, .inl (nF (x.2 21)))), (ad 23, .inl (ci 0, 3, .inl (nF (x.2 22)))), (ad 24, .inl (ci 0, 6, .inl (nF (x.2 23))))] H → va_D A9 [(ad 0, .inr (6, [.int (nI (x.1 0)), .int (nI (x.1 1)), .int (nI (x.1 2)), .ref (ad 1), .ref (ad 2), .ref (ad 3), .ref (ad 4), .ref (ad 5), .ref (ad 6), .ref (ad 7), .ref (ad 8), .ref (ad 9), .ref (ad 10), .int (nI (x.1 13)), .ref (ad 11), .ref (ad 12), .int (nI (x.1 16)), .int (nI (x.1 17)), .ref (ad 13), .ref (ad 14), .ref (ad 15), .ref (ad 16), .ref (ad 17), .ref (ad 18), .ref (ad 19), .ref (ad 20), .ref (ad 21), .ref (ad 22), .ref (ad 23), .ref (ad 24)])), (ad 1, .inl (ci 0, 3, .inl (nF (x.2 0)))), (ad 2, .inl (ci 0, 1536, .inl (nF (x.2 1)))), (ad 3, .inl (ci 0, 1536, .inl (nF (x.2 2)))), (ad 4, .inl (ci 0, 1536, .inl (nF (x.2 3)))), (ad 5, .inl (ci 0, 3, .inl (nF (x.2 4)))), (ad 6, .inl (ci 0, 3, .inl (nF (x.2 5)))), (ad 7, .inl (ci 0, 3, .inl (nF (x.2 6)))), (ad 8, .inl (ci 0, 3, .inl (nF (x.2 7)))), (ad 9, .inl (ci 0, 3, .inl (nF (x.2 8)))), (ad 10, .inl (ci 0, 3, .inl (nF (x.2 9)))), (ad 11, .inl (ci 0, 16, .inl (nF (x.2 10)))), (ad 12, .inl (ci 0, 16, .inl (nF (x.2 11)))), (ad 13, .inl (ci 1, 3, .inl (nF (x.2 12)))), (ad 14, .inl (ci 0, 3, .inl (nF (x.2 13)))), (ad 15, .inl (ci 1, 3, .inl (nF (x.2 14)))), (ad 16, .inl (ci 0, 3, .inl (nF (x.2 15)))), (ad 17, .inl (ci 0, 3, .inl (nF (x.2 16)))), (ad 18, .inl (ci 0, 3, .inl (nF (x.2 17)))), (ad 19, .inl (ci 0, 180, .inl (nF (x.2 18)))), (ad 20, .inl (ci 0, 180, .inl (nF (x.2 19)))), (ad 21, .inl (ci 0, 3, .inl (nF (x.2 20)))), (ad 22, .inl (ci 0, 3, .inl (nF (x.2 21)))), (ad 23, .inl (ci 0, 3, .inl (nF (x.2 22)))), (ad 24, .inl (ci 0, 6, .inl (nF (x.2 23))))] → va_S A9 H0 H locs → W p9 l e9 rm_M_chosen s9 m9 args9 be9 me9 c9 H locs 0 0 Q9 (F0 m9 73 ls [])) → W p9 l e9 rm_M_chosen s9 m9 args9 be9 me9 c9 H locs 0 0 Q9 (F0 m9 6 ls []) := by
    intro fu
    induction fu with
    | zero => intro i1 i2 i3 o4 ls H locs hF; rw [fM_chosen_L6] at hF; cases hF
    | succ fu ih5 =>
      intro i1 i2 i3 o4 ls H locs hF hl hP hD hS k6
      rw [fM_chosen_L6] at hF
      refine lv_iload_n hx hb d_M_chosen_6 rfl (lv_at hl 3 rfl) ?_
      refine lv_iconst (v := nI 3) hx hb d_M_chosen_7 (by decide) ?_
      obtain ⟨b7, hF⟩ := ss_s hF
      refine ln_icmp_ge hx hb b7 (by decide) 73 d_M_chosen_8 (by decide) (fun h8 => ?_) (fun h8 => ?_)
      · have hF := it_p hF h8
        obtain rfl := Option.some.inj hF
        have hl := lv_sub hl [0, 1, 2, 3] rfl
        exact k6 _ _ _ hl hP hD hS
      · have hF := it_n hF h8
        refine lv_aload_n hx hb d_M_chosen_11 rfl (lv_at hl 0 rfl) ?_
        refine lv_iload_n hx hb d_M_chosen_12 rfl (lv_at hl 3 rfl) ?_
        obtain ⟨r9, g10, hF⟩ := ob_s hF
        refine ln_goiA (va_runV (As := [.int (nI i3)]) (rest := []) ⟨hx, hb, hml, hown, hT⟩ (cM_ready l D ci ad x i3 _ g10 H.size) (cw_V 1 hT wd_556 wd_8 wd_559 wd_558 ws_M_ready (by decide +kernel) (by decide) (by decide)) (ln_preV 0 hK hN hP rfl rfl hP hD) rfl rfl hl.1 rfl (lv_room (Nat.le_of_ble_eq_true rfl)) d_M_chosen_13 ⟨Nat.zero_le _, Nat.zero_le _⟩) hD hS hA (fun H locs hP hD hS => ?_)
        replace hP : va_P D vwCl [(ad 0, .inr (6, [.int (nI (x.1 0)), .int (nI (x.1 1)), .int (nI (x.1 2)), .ref (ad 1), .ref (ad 2), .ref (ad 3), .ref (ad 4), .ref (ad 5), .ref (ad 6), .ref (ad 7), .ref (ad 8), .ref (ad 9), .ref (ad 10), .int (nI (x.1 13)), .ref (ad 11), .ref (ad 12), .int (nI (x.1 16)), .int (nI (x.1 17)), .ref (ad 13), .ref (ad 14), .ref (ad 15), .ref (ad 16), .ref (ad 17), .ref (ad 18), .ref (ad 19), .ref (ad 20), .ref (ad 21), .ref (ad 22), .ref (ad 23), .ref (ad 24)])), (ad 1, .inl (ci 0, 3, .inl (nF (x.2 0)))), (ad 2, .inl (ci 0, 1536, .inl (nF (x.2 1)))), (ad 3, .inl (ci 0, 1536, .inl (nF (x.2 2)))), (ad 4, .inl (ci 0, 1536, .inl (nF (x.2 3)))), (ad 5, .inl (ci 0, 3, .inl (nF (x.2 4)))), (ad 6, .inl (ci 0, 3, .inl (nF (x.2 5)))), (ad 7, .inl (ci 0, 3, .inl (nF (x.2 6)))), (ad 8, .inl (ci 0, 3, .inl (nF (x.2 7)))), (ad 9, .inl (ci 0, 3, .inl (nF (x.2 8)))), (ad 10, .inl (ci 0, 3, .inl (nF (x.2 9)))), (ad 11, .inl (ci 0, 16, .inl (nF (x.2 10)))), (ad 12, .inl (ci 0, 16, .inl (nF (x.2 11)))), (ad 13, .inl (ci 1, 3, .inl (nF (x.2 12)))), (ad 14, .inl (ci 0, 3, .inl (nF (x.2 13)))), (ad 15, .inl (ci 1, 3, .inl (nF (x.2 14)))), (ad 16, .inl (ci 0, 3, .inl (nF (x.2 15)))), (ad 17, .inl (ci 0, 3, .inl (nF (x.2 16)))), (ad 18, .inl (ci 0, 3, .inl (nF (x.2 17)))), (ad 19, .inl (ci 0, 180, .inl (nF (x.2 18)))), (ad 20, .inl (ci 0, 180, .inl (nF (x.2 19)))), (ad 21, .inl (ci 0, 3, .inl (nF (x.2 20)))), (ad 22, .inl (ci 0, 3, .inl (nF (x.2 21)))), (ad 23, .inl (ci 0, 3, .inl (nF (x.2 22)))), (ad 24, .inl (ci 0, 6, .inl (nF (x.2 23))))] H := hP
        replace hD : va_D A9 [(ad 0, .inr (6, [.int (nI (x.1 0)), .int (nI (x.1 1)), .int (nI (x.1 2)), .ref (ad 1), .ref (ad 2), .ref (ad 3), .ref (ad 4), .ref (ad 5), .ref (ad 6), .ref (ad 7), .ref (ad 8), .ref (ad 9), .ref (ad 10), .int (nI (x.1 13)), .ref (ad 11), .ref (ad 12), .int (nI (x.1 16)), .int (nI (x.1 17)), .ref (ad 13), .ref (ad 14), .ref (ad 15), .ref (ad 16), .ref (ad 17), .ref (ad 18), .ref (ad 19), .ref (ad 20), .ref (ad 21), .ref (ad 22), .ref (ad 23), .ref (ad 24)])), (ad 1, .inl (ci 0, 3, .inl (nF (x.2 0)))), (ad 2, .inl (ci 0, 1536, .inl (nF (x.2 1)))), (ad 3, .inl (ci 0, 1536, .inl (nF (x.2 2)))), (ad 4, .inl (ci 0, 1536, .inl (nF (x.2 3)))), (ad 5, .inl (ci 0, 3, .inl (nF (x.2 4)))), (ad 6, .inl (ci 0, 3, .inl (nF (x.2 5)))), (ad 7, .inl (ci 0, 3, .inl (nF (x.2 6)))), (ad 8, .inl (ci 0, 3, .inl (nF (x.2 7)))), (ad 9, .inl (ci 0, 3, .inl (nF (x.2 8)))), (ad 10, .inl (ci 0, 3, .inl (nF (x.2 9)))), (ad 11, .inl (ci 0, 16, .inl (nF (x.2 10)))), (ad 12, .inl (ci 0, 16, .inl (nF (x.2 11)))), (ad 13, .inl (ci 1, 3, .inl (nF (x.2 12)))), (ad 14, .inl (ci 0, 3, .inl (nF (x.2 13)))), (ad 15, .inl (ci 1, 3, .inl (nF (x.2 14)))), (ad 16, .inl (ci 0, 3, .inl (nF (x.2 15)))), (ad 17, .inl (ci 0, 3, .inl (nF (x.2 16)))), (ad 18, .inl (ci 0, 3, .inl (nF (x.2 17)))), (ad 19, .inl (ci 0, 180, .inl (nF (x.2 18)))), (ad 20, .inl (ci 0, 180, .inl (nF (x.2 19)))), (ad 21, .inl (ci 0, 3, .inl (nF (x.2 20)))), (ad 22, .inl (ci 0, 3, .inl (nF (x.2 21)))), (ad 23, .inl (ci 0, 3, .inl (nF (x.2 22)))), (ad 24, .inl (ci 0, 6, .inl (nF (x.2 23))))] := hD
        refine lv_istore hx hb d_M_chosen_16 hl (by decide) rfl (fun ls hl => ?_)
        replace hl : lv_has ls 6 [(4, .int (nI r9)), (0, .ref (ad 0)), (1, .int (nI i1)), (2, .int (nI i2)), (3, .int (nI i3))] := hl
        refine lv_iload hx hb d_M_chosen_18 (lv_at hl 0 rfl) ?_
        obtain ⟨b11, hF⟩ := ss_s hF
        obtain ⟨j13, g17, hF⟩ := ob_s hF
        have k14 : ∀ (ls : Array Slot) (H : Heap) (locs : List Loc), lv_has ls 6 [(0, .ref (ad 0)), (1, .int (nI i1)), (2, .int (nI i2)), (3, .int (nI i3)), (4, .int (nI r9))] → va_P D vwCl [(ad 0, .inr (6, [.int (nI (x.1 0)), .int (nI (x.1 1)), .int (nI (x.1 2)), .ref (ad 1), .ref (ad 2), .ref (ad 3), .ref (ad 4), .ref (ad 5), .ref (ad 6), .ref (ad 7), .ref (ad 8), .ref (ad 9), .ref (ad 10), .int (nI (x.1 13)), .ref (ad 11), .ref (ad 12), .int (nI (x.1 16)), .int (nI (x.1 17)), .ref (ad 13), .ref (ad 14), .ref (ad 15), .ref (ad 16), .ref (ad 17), .ref (ad 18), .ref (ad 19), .ref (ad 20), .ref (ad 21), .ref (ad 22), .ref (ad 23), .ref (ad 24)])), (ad 1, .inl (ci 0, 3, .inl (nF (x.2 0)))), (ad 2, .inl (ci 0, 1536, .inl (nF (x.2 1)))), (ad 3, .inl (ci 0, 1536, .inl (nF (x.2 2)))), (ad 4, .inl (ci 0, 1536, .inl (nF (x.2 3)))), (ad 5, .inl (ci 0, 3, .inl (nF (x.2 4)))), (ad 6, .inl (ci 0, 3, .inl (nF (x.2 5)))), (ad 7, .inl (ci 0, 3, .inl (nF (x.2 6)))), (ad 8, .inl (ci 0, 3, .inl (nF (x.2 7)))), (ad 9, .inl (ci 0, 3, .inl (nF (x.2 8)))), (ad 10, .inl (ci 0, 3, .inl (nF (x.2 9)))), (ad 11, .inl (ci 0, 16, .inl (nF (x.2 10)))), (ad 12, .inl (ci 0, 16, .inl (nF (x.2 11)))), (ad 13, .inl (ci 1, 3, .inl (nF (x.2 12)))), (ad 14, .inl (ci 0, 3, .inl (nF (x.2 13)))), (ad 15, .inl (ci 1, 3, .inl (nF (x.2 14)))), (ad 16, .inl (ci 0, 3, .inl (nF (x.2 15)))), (ad 17, .inl (ci 0, 3, .inl (nF (x.2 16)))), (ad 18, .inl (ci 0, 3, .inl (nF (x.2 17)))), (ad 19, .inl (ci 0, 180, .inl (nF (x.2 18)))), (ad 20, .inl (ci 0, 180, .inl (nF (x.2 19)))), (ad 21, .inl (ci 0, 3, .inl (nF (x.2 20)))), (ad 22, .inl (ci 0, 3, .inl (nF (x.2 21)))), (ad 23, .inl (ci 0, 3, .inl (nF (x.2 22)))), (ad 24, .inl (ci 0, 6, .inl (nF (x.2 23))))] H → va_D A9 [(ad 0, .inr (6, [.int (nI (x.1 0)), .int (nI (x.1 1)), .int (nI (x.1 2)), .ref (ad 1), .ref (ad 2), .ref (ad 3), .ref (ad 4), .ref (ad 5), .ref (ad 6), .ref (ad 7), .ref (ad 8), .ref (ad 9), .ref (ad 10), .int (nI (x.1 13)), .ref (ad 11), .ref (ad 12), .int (nI (x.1 16)), .int (nI (x.1 17)), .ref (ad 13), .ref (ad 14), .ref (ad 15), .ref (ad 16), .ref (ad 17), .ref (ad 18), .ref (ad 19), .ref (ad 20), .ref (ad 21), .ref (ad 22), .ref (ad 23), .ref (ad 24)])), (ad 1, .inl (ci 0, 3, .inl (nF (x.2 0)))), (ad 2, .inl (ci 0, 1536, .inl (nF (x.2 1)))), (ad 3, .inl (ci 0, 1536, .inl (nF (x.2 2)))), (ad 4, .inl (ci 0, 1536, .inl (nF (x.2 3)))), (ad 5, .inl (ci 0, 3, .inl (nF (x.2 4)))), (ad 6, .inl (ci 0, 3, .inl (nF (x.2 5)))), (ad 7, .inl (ci 0, 3, .inl (nF (x.2 6)))), (ad 8, .inl (ci 0, 3, .inl (nF (x.2 7)))), (ad 9, .inl (ci 0, 3, .inl (nF (x.2 8)))), (ad 10, .inl (ci 0, 3, .inl (nF (x.2 9)))), (ad 11, .inl (ci 0, 16, .inl (nF (x.2 10)))), (ad 12, .inl (ci 0, 16, .inl (nF (x.2 11)))), (ad 13, .inl (ci 1, 3, .inl (nF (x.2 12)))), (ad 14, .inl (ci 0, 3, .inl (nF (x.2 13)))), (ad 15, .inl (ci 1, 3, .inl (nF (x.2 14)))), (ad 16, .inl (ci 0, 3, .inl (nF (x.2 15)))), (ad 17, .inl (ci 0, 3, .inl (nF (x.2 16)))), (ad 18, .inl (ci 0, 3, .inl (nF (x.2 17)))), (ad 19, .inl (ci 0, 180, .inl (nF (x.2 18)))), (ad 20, .inl (ci 0, 180, .inl (nF (x.2 19)))), (ad 21, .inl (ci 0, 3, .inl (nF (x.2 20)))), (ad 22, .inl (ci 0, 3, .inl (nF (x.2 21)))), (ad 23, .inl (ci 0, 3, .inl (nF (x.2 22)))), (ad 24, .inl (ci 0, 6, .inl (nF (x.2 23))))] → va_S A9 H0 H locs → W p9 l e9 rm_M_chosen s9 m9 args9 be9 me9 c9 H locs 0 0 Q9 (F0 m9 44 ls [.int (nI j13)]) := by
          intro ls H locs hl hP hD hS
          refine lv_istore hx hb d_M_chosen_44 hl (by decide) rfl (fun ls hl => ?_)
          replace hl : lv_has ls 6 [(5, .int (nI j13)), (0, .ref (ad 0)), (1, .int (nI i1)), (2, .int (nI i2)), (3, .int (nI i3)), (4, .int (nI r9))] := hl
          refine lv_iload hx hb d_M_chosen_46 (lv_at hl 5 rfl) ?_
          obtain ⟨j19, g26, hF⟩ := ob_s hF
          have k20 : ∀ (ls : Array Slot) (H : Heap) (locs : List Loc), lv_has ls 6 [(0, .ref (ad 0)), (1, .int (nI j19.1)), (2, .int (nI j19.2)), (3, .int (nI i3)), (4, .int (nI r9)), (5, .int (nI j13))] → va_P D vwCl [(ad 0, .inr (6, [.int (nI (x.1 0)), .int (nI (x.1 1)), .int (nI (x.1 2)), .ref (ad 1), .ref (ad 2), .ref (ad 3), .ref (ad 4), .ref (ad 5), .ref (ad 6), .ref (ad 7), .ref (ad 8), .ref (ad 9), .ref (ad 10), .int (nI (x.1 13)), .ref (ad 11), .ref (ad 12), .int (nI (x.1 16)), .int (nI (x.1 17)), .ref (ad 13), .ref (ad 14), .ref (ad 15), .ref (ad 16), .ref (ad 17), .ref (ad 18), .ref (ad 19), .ref (ad 20), .ref (ad 21), .ref (ad 22), .ref (ad 23), .ref (ad 24)])), (ad 1, .inl (ci 0, 3, .inl (nF (x.2 0)))), (ad 2, .inl (ci 0, 1536, .inl (nF (x.2 1)))), (ad 3, .inl (ci 0, 1536, .inl (nF (x.2 2)))), (ad 4, .inl (ci 0, 1536, .inl (nF (x.2 3)))), (ad 5, .inl (ci 0, 3, .inl (nF (x.2 4)))), (ad 6, .inl (ci 0, 3, .inl (nF (x.2 5)))), (ad 7, .inl (ci 0, 3, .inl (nF (x.2 6)))), (ad 8, .inl (ci 0, 3, .inl (nF (x.2 7)))), (ad 9, .inl (ci 0, 3, .inl (nF (x.2 8)))), (ad 10, .inl (ci 0, 3, .inl (nF (x.2 9)))), (ad 11, .inl (ci 0, 16, .inl (nF (x.2 10)))), (ad 12, .inl (ci 0, 16, .inl (nF (x.2 11)))), (ad 13, .inl (ci 1, 3, .inl (nF (x.2 12)))), (ad 14, .inl (ci 0, 3, .inl (nF (x.2 13)))), (ad 15, .inl (ci 1, 3, .inl (nF (x.2 14)))), (ad 16, .inl (ci 0, 3, .inl (nF (x.2 15)))), (ad 17, .inl (ci 0, 3, .inl (nF (x.2 16)))), (ad 18, .inl (ci 0, 3, .inl (nF (x.2 17)))), (ad 19, .inl (ci 0, 180, .inl (nF (x.2 18)))), (ad 20, .inl (ci 0, 180, .inl (nF (x.2 19)))), (ad 21, .inl (ci 0, 3, .inl (nF (x.2 20)))), (ad 22, .inl (ci 0, 3, .inl (nF (x.2 21)))), (ad 23, .inl (ci 0, 3, .inl (nF (x.2 22)))), (ad 24, .inl (ci 0, 6, .inl (nF (x.2 23))))] H → va_D A9 [(ad 0, .inr (6, [.int (nI (x.1 0)), .int (nI (x.1 1)), .int (nI (x.1 2)), .ref (ad 1), .ref (ad 2), .ref (ad 3), .ref (ad 4), .ref (ad 5), .ref (ad 6), .ref (ad 7), .ref (ad 8), .ref (ad 9), .ref (ad 10), .int (nI (x.1 13)), .ref (ad 11), .ref (ad 12), .int (nI (x.1 16)), .int (nI (x.1 17)), .ref (ad 13), .ref (ad 14), .ref (ad 15), .ref (ad 16), .ref (ad 17), .ref (ad 18), .ref (ad 19), .ref (ad 20), .ref (ad 21), .ref (ad 22), .ref (ad 23), .ref (ad 24)])), (ad 1, .inl (ci 0, 3, .inl (nF (x.2 0)))), (ad 2, .inl (ci 0, 1536, .inl (nF (x.2 1)))), (ad 3, .inl (ci 0, 1536, .inl (nF (x.2 2)))), (ad 4, .inl (ci 0, 1536, .inl (nF (x.2 3)))), (ad 5, .inl (ci 0, 3, .inl (nF (x.2 4)))), (ad 6, .inl (ci 0, 3, .inl (nF (x.2 5)))), (ad 7, .inl (ci 0, 3, .inl (nF (x.2 6)))), (ad 8, .inl (ci 0, 3, .inl (nF (x.2 7)))), (ad 9, .inl (ci 0, 3, .inl (nF (x.2 8)))), (ad 10, .inl (ci 0, 3, .inl (nF (x.2 9)))), (ad 11, .inl (ci 0, 16, .inl (nF (x.2 10)))), (ad 12, .inl (ci 0, 16, .inl (nF (x.2 11)))), (ad 13, .inl (ci 1, 3, .inl (nF (x.2 12)))), (ad 14, .inl (ci 0, 3, .inl (nF (x.2 13)))), (ad 15, .inl (ci 1, 3, .inl (nF (x.2 14)))), (ad 16, .inl (ci 0, 3, .inl (nF (x.2 15)))), (ad 17, .inl (ci 0, 3, .inl (nF (x.2 16)))), (ad 18, .inl (ci 0, 3, .inl (nF (x.2 17)))), (ad 19, .inl (ci 0, 180, .inl (nF (x.2 18)))), (ad 20, .inl (ci 0, 180, .inl (nF (x.2 19)))), (ad 21, .inl (ci 0, 3, .inl (nF (x.2 20)))), (ad 22, .inl (ci 0, 3, .inl (nF (x.2 21)))), (ad 23, .inl (ci 0, 3, .inl (nF (x.2 22)))), (ad 24, .inl (ci 0, 6, .inl (nF (x.2 23))))] → va_S A9 H0 H locs → W p9 l e9 rm_M_chosen s9 m9 args9 be9 me9 c9 H locs 0 0 Q9 (F0 m9 67 ls []) := by
            intro ls H locs hl hP hD hS
            refine ln_iinc (k := 3) (y := i3 + 1) hx hb d_M_chosen_67 hl rfl (nI_inc _) (by decide) rfl (fun ls hl => ?_)
            replace hl : lv_has ls 6 [(3, .int (nI (i3 + 1))), (0, .ref (ad 0)), (1, .int (nI j19.1)), (2, .int (nI j19.2)), (4, .int (nI r9)), (5, .int (nI j13))] := hl
            refine lv_goto (tgt := 6) hx hb d_M_chosen_70 (by decide) ?_
            have hl := lv_sub hl [1, 2, 3, 0] rfl
            exact ih5 _ _ _ _ _ _ _ hF hl hP hD hS k6
          have hF := g26
          refine ln_if_eq hx hb b11 67 d_M_chosen_48 (by decide) (fun h18 => ?_) (fun h18 => ?_)
          · have hF := it_p hF h18
            obtain rfl := Option.some.inj hF
            have hl := lv_sub hl [1, 2, 3, 4, 5, 0] rfl
            exact k20 _ _ _ hl hP hD hS
          · have hF := it_n hF h18
            refine lv_iload_n hx hb d_M_chosen_51 rfl (lv_at hl 2 rfl) ?_
            refine lv_iconst (v := nI 3) hx hb d_M_chosen_52 (by decide) ?_
            obtain ⟨b21, hF⟩ := ss_s hF
            refine ln_icmp_eq hx hb b21 (by decide) 62 d_M_chosen_53 (by decide) (fun h22 => ?_) (fun h22 => ?_)
            · have hF := it_p hF h22
              refine lv_iload_n hx hb d_M_chosen_62 rfl (lv_at hl 4 rfl) ?_
              refine lv_istore_n hx hb d_M_chosen_63 rfl hl (by decide) rfl (fun ls hl => ?_)
              replace hl : lv_has ls 6 [(1, .int (nI i3)), (5, .int (nI j13)), (0, .ref (ad 0)), (2, .int (nI i2)), (3, .int (nI i3)), (4, .int (nI r9))] := hl
              refine lv_iload hx hb d_M_chosen_64 (lv_at hl 1 rfl) ?_
              refine lv_istore_n hx hb d_M_chosen_66 rfl hl (by decide) rfl (fun ls hl => ?_)
              replace hl : lv_has ls 6 [(2, .int (nI j13)), (1, .int (nI i3)), (5, .int (nI j13)), (0, .ref (ad 0)), (3, .int (nI i3)), (4, .int (nI r9))] := hl
              obtain rfl := Option.some.inj hF
              have hl := lv_sub hl [3, 1, 0, 4, 5, 2] rfl
              exact k20 _ _ _ hl hP hD hS
            · have hF := it_n hF h22
              refine lv_iload hx hb d_M_chosen_56 (lv_at hl 0 rfl) ?_
              refine lv_iload_n hx hb d_M_chosen_58 rfl (lv_at hl 3 rfl) ?_
              obtain ⟨b23, hF⟩ := ss_s hF
              obtain ⟨b24, hF⟩ := ss_s hF
              refine ln_icmp_ge hx hb b23 b24 67 d_M_chosen_59 (by decide) (fun h25 => ?_) (fun h25 => ?_)
              · have hF := it_p hF h25
                obtain rfl := Option.some.inj hF
                have hl := lv_sub hl [1, 2, 3, 4, 5, 0] rfl
                exact k20 _ _ _ hl hP hD hS
              · have hF := it_n hF h25
                refine lv_iload_n hx hb d_M_chosen_62 rfl (lv_at hl 4 rfl) ?_
                refine lv_istore_n hx hb d_M_chosen_63 rfl hl (by decide) rfl (fun ls hl => ?_)
                replace hl : lv_has ls 6 [(1, .int (nI i3)), (5, .int (nI j13)), (0, .ref (ad 0)), (2, .int (nI i2)), (3, .int (nI i3)), (4, .int (nI r9))] := hl
                refine lv_iload hx hb d_M_chosen_64 (lv_at hl 1 rfl) ?_
                refine lv_istore_n hx hb d_M_chosen_66 rfl hl (by decide) rfl (fun ls hl => ?_)
                replace hl : lv_has ls 6 [(2, .int (nI j13)), (1, .int (nI i3)), (5, .int (nI j13)), (0, .ref (ad 0)), (3, .int (nI i3)), (4, .int (nI r9))] := hl
                obtain rfl := Option.some.inj hF
                have hl := lv_sub hl [3, 1, 0, 4, 5, 2] rfl
                exact k20 _ _ _ hl hP hD hS
        have hF := g17
        refine ln_if_eq hx hb b11 43 d_M_chosen_20 (by decide) (fun h12 => ?_) (fun h12 => ?_)
        · have hF := it_p hF h12
          refine lv_iconst (v := nI 0) hx hb d_M_chosen_43 (by decide) ?_
          obtain rfl := Option.some.inj hF
          have hl := lv_sub hl [1, 2, 3, 4, 0] rfl
          exact k14 _ _ _ hl hP hD hS
        · have hF := it_n hF h12
          refine lv_aload_n hx hb d_M_chosen_23 rfl (lv_at hl 1 rfl) ?_
          refine va_get (D := D) (ci := 6) (v := .ref (ad 3)) (C := R_M) (T := F_M) (N := 30) hx hb hT in_M hown hK hP 0 rfl rfl 5 (by decide) (hT _ wd_438) (fun _ h9 => h9) rfl d_M_chosen_24 ?_
          refine lv_sipush (v := nI 512) hx hb d_M_chosen_27 (by decide) ?_
          refine lv_iload_n hx hb d_M_chosen_30 rfl (lv_at hl 4 rfl) ?_
          refine ln_imul hx hb d_M_chosen_31 ?_
          refine lv_aload_n hx hb d_M_chosen_32 rfl (lv_at hl 1 rfl) ?_
          refine va_get (D := D) (ci := 6) (v := .ref (ad 7)) (C := R_M) (T := F_M) (N := 30) hx hb hT in_M hown hK hP 0 rfl rfl 9 (by decide) (hT _ wd_442) (fun _ h9 => h9) rfl d_M_chosen_33 ?_
          refine lv_iload_n hx hb d_M_chosen_36 rfl (lv_at hl 4 rfl) ?_
          obtain ⟨b15, hF⟩ := ss_s hF
          refine ln_ald hx hb hK hP 7 0 rfl rfl b15 (by decide) d_M_chosen_37 ?_
          refine ln_iadd hx hb d_M_chosen_38 ?_
          obtain ⟨b16, hF⟩ := ss_s hF
          refine ln_ald hx hb hK hP 3 0 rfl rfl b16 (by decide) d_M_chosen_39 ?_
          refine lv_goto (tgt := 44) hx hb d_M_chosen_40 (by decide) ?_
          obtain rfl := Option.some.inj hF
          have hl := lv_sub hl [1, 2, 3, 4, 0] rfl
          exact k14 _ _ _ hl hP hD hS
  obtain ⟨o4, g28, hF⟩ := ob_s hF
  have hl := lv_sub hl [3, 2, 1, 0] rfl
  refine L27 _ _ _ _ _ _ _ _ g28 hl hP hD hS (fun ls H locs hl hP hD hS => ?_)
  refine lv_iload_n hx hb d_M_chosen_73 rfl (lv_at hl 1 rfl) ?_
  obtain rfl := Option.some.inj hF
  exact kR _ _ _ _ d_M_chosen_74 rfl hP hD hS
