def fM_packet (x : ST) (v1 : Int32) : Option (Int32) := ss ((x.1 13) < 2147483648) ((if (x.1 13) = 0 then some (-1) else ob (fwithin v1 (nI 0) (nI 15)) (fun r3 => ss (r3 < 2147483648) ((if r3 = 0 then some (-1) else ss (¬ v1 < 0) (ss (v1.toNatClampNeg < 16) (some (nI ((x.2 10) v1.toNatClampNeg)))))))))
abbrev rm_M_packet : Room := { frames := 1, cells := 0, slots := 0, locals := 22 }
set_option maxHeartbeats 4000000 in
set_option maxRecDepth 100000 in
theorem cM_packet (l : Launch) (D : va_G) (ci : Nat → ClassId) (ad : Nat → Nat) (x : ST) (v1 : Int32) (o : Int32) (hF : fM_packet x v1 = some o) : CtI l y_M_packet w_M_packet rm_M_packet D vwCl (tyC ci) [.ref (ad 0), .int v1] (wM ad ci x) o (wM ad ci x) := by
  refine ct_i (cc := b_M_packet) (maxL := 2) (plainFor_of_name (by decide)) rfl (Nat.le_of_ble_eq_true rfl) (fun p9 e9 s9 m9 args9 be9 me9 c9 A9 Q9 ls H0 hx hb hml hts hown hK hN hl hP hD hS hA kR => ?_)
  replace hl : lv_has ls 2 [(0, .ref (ad 0)), (1, .int v1)] := hl
  replace hP : va_P D vwCl [(ad 0, .inr (6, [.int (nI (x.1 0)), .int (nI (x.1 1)), .int (nI (x.1 2)), .ref (ad 1), .ref (ad 2), .ref (ad 3), .ref (ad 4), .ref (ad 5), .ref (ad 6), .ref (ad 7), .ref (ad 8), .ref (ad 9), .ref (ad 10), .int (nI (x.1 13)), .ref (ad 11), .ref (ad 12), .int (nI (x.1 16)), .int (nI (x.1 17)), .ref (ad 13), .ref (ad 14), .ref (ad 15), .ref (ad 16), .ref (ad 17), .ref (ad 18), .ref (ad 19), .ref (ad 20), .ref (ad 21), .ref (ad 22), .ref (ad 23), .ref (ad 24)])), (ad 1, .inl (ci 0, 3, .inl (nF (x.2 0)))), (ad 2, .inl (ci 0, 1536, .inl (nF (x.2 1)))), (ad 3, .inl (ci 0, 1536, .inl (nF (x.2 2)))), (ad 4, .inl (ci 0, 1536, .inl (nF (x.2 3)))), (ad 5, .inl (ci 0, 3, .inl (nF (x.2 4)))), (ad 6, .inl (ci 0, 3, .inl (nF (x.2 5)))), (ad 7, .inl (ci 0, 3, .inl (nF (x.2 6)))), (ad 8, .inl (ci 0, 3, .inl (nF (x.2 7)))), (ad 9, .inl (ci 0, 3, .inl (nF (x.2 8)))), (ad 10, .inl (ci 0, 3, .inl (nF (x.2 9)))), (ad 11, .inl (ci 0, 16, .inl (nF (x.2 10)))), (ad 12, .inl (ci 0, 16, .inl (nF (x.2 11)))), (ad 13, .inl (ci 1, 3, .inl (nF (x.2 12)))), (ad 14, .inl (ci 0, 3, .inl (nF (x.2 13)))), (ad 15, .inl (ci 1, 3, .inl (nF (x.2 14)))), (ad 16, .inl (ci 0, 3, .inl (nF (x.2 15)))), (ad 17, .inl (ci 0, 3, .inl (nF (x.2 16)))), (ad 18, .inl (ci 0, 3, .inl (nF (x.2 17)))), (ad 19, .inl (ci 0, 180, .inl (nF (x.2 18)))), (ad 20, .inl (ci 0, 180, .inl (nF (x.2 19)))), (ad 21, .inl (ci 0, 3, .inl (nF (x.2 20)))), (ad 22, .inl (ci 0, 3, .inl (nF (x.2 21)))), (ad 23, .inl (ci 0, 3, .inl (nF (x.2 22)))), (ad 24, .inl (ci 0, 6, .inl (nF (x.2 23))))] H0 := hP
  replace hD : va_D A9 [(ad 0, .inr (6, [.int (nI (x.1 0)), .int (nI (x.1 1)), .int (nI (x.1 2)), .ref (ad 1), .ref (ad 2), .ref (ad 3), .ref (ad 4), .ref (ad 5), .ref (ad 6), .ref (ad 7), .ref (ad 8), .ref (ad 9), .ref (ad 10), .int (nI (x.1 13)), .ref (ad 11), .ref (ad 12), .int (nI (x.1 16)), .int (nI (x.1 17)), .ref (ad 13), .ref (ad 14), .ref (ad 15), .ref (ad 16), .ref (ad 17), .ref (ad 18), .ref (ad 19), .ref (ad 20), .ref (ad 21), .ref (ad 22), .ref (ad 23), .ref (ad 24)])), (ad 1, .inl (ci 0, 3, .inl (nF (x.2 0)))), (ad 2, .inl (ci 0, 1536, .inl (nF (x.2 1)))), (ad 3, .inl (ci 0, 1536, .inl (nF (x.2 2)))), (ad 4, .inl (ci 0, 1536, .inl (nF (x.2 3)))), (ad 5, .inl (ci 0, 3, .inl (nF (x.2 4)))), (ad 6, .inl (ci 0, 3, .inl (nF (x.2 5)))), (ad 7, .inl (ci 0, 3, .inl (nF (x.2 6)))), (ad 8, .inl (ci 0, 3, .inl (nF (x.2 7)))), (ad 9, .inl (ci 0, 3, .inl (nF (x.2 8)))), (ad 10, .inl (ci 0, 3, .inl (nF (x.2 9)))), (ad 11, .inl (ci 0, 16, .inl (nF (x.2 10)))), (ad 12, .inl (ci 0, 16, .inl (nF (x.2 11)))), (ad 13, .inl (ci 1, 3, .inl (nF (x.2 12)))), (ad 14, .inl (ci 0, 3, .inl (nF (x.2 13)))), (ad 15, .inl (ci 1, 3, .inl (nF (x.2 14)))), (ad 16, .inl (ci 0, 3, .inl (nF (x.2 15)))), (ad 17, .inl (ci 0, 3, .inl (nF (x.2 16)))), (ad 18, .inl (ci 0, 3, .inl (nF (x.2 17)))), (ad 19, .inl (ci 0, 180, .inl (nF (x.2 18)))), (ad 20, .inl (ci 0, 180, .inl (nF (x.2 19)))), (ad 21, .inl (ci 0, 3, .inl (nF (x.2 20)))), (ad 22, .inl (ci 0, 3, .inl (nF (x.2 21)))), (ad 23, .inl (ci 0, 3, .inl (nF (x.2 22)))), (ad 24, .inl (ci 0, 6, .inl (nF (x.2 23))))] := hD
  replace hown : s9.vm.findClass R_M = some m9.cls := hown
  have hT : ∀ w ∈ lw_ok, w.before args9 s9 = true := fun w h => hts w (List.mem_cons_of_mem _ h)
  rw [fM_packet] at hF
  generalize hH : H0 = H at hP ⊢
  replace hS : va_S A9 H0 H [] := by rw [← hH]; exact hS
  clear hH
  generalize ([] : List Loc) = locs at hS ⊢
  refine lv_aload_n hx hb d_M_packet_0 rfl (lv_at hl 0 rfl) ?_
  refine va_get (D := D) (ci := 6) (v := .int (nI (x.1 13))) (C := R_M) (T := F_M) (N := 30) hx hb hT in_M hown hK hP 0 rfl rfl 13 (by decide) (hT _ wd_446) (fun _ h9 => h9) rfl d_M_packet_1 ?_
  obtain ⟨b1, hF⟩ := ss_s hF
  refine ln_if_eq hx hb b1 26 d_M_packet_4 (by decide) (fun h2 => ?_) (fun h2 => ?_)
  · have hF := it_p hF h2
    refine lv_iconst (v := (-1)) hx hb d_M_packet_26 (by decide) ?_
    obtain rfl := Option.some.inj hF
    exact kR _ _ _ _ d_M_packet_27 rfl hP hD hS
  · have hF := it_n hF h2
    refine lv_iload_n hx hb d_M_packet_7 rfl (lv_at hl 1 rfl) ?_
    refine lv_iconst (v := nI 0) hx hb d_M_packet_8 (by decide) ?_
    refine lv_bipush (v := nI 15) hx hb d_M_packet_9 (by decide) ?_
    obtain ⟨r3, g4, hF⟩ := ob_s hF
    refine ln_goi0 (va_runS (As := [.int v1, .int (nI 0), .int (nI 15)]) (rest := []) ⟨hx, hb, hml, hown, hT⟩ (cwithin l D ci   v1 (nI 0) (nI 15) _ g4 H.size) (cw_S 3 hT wd_529 wd_8 wd_531 wd_530 (by decide +kernel) (by decide) (by decide)) (ln_pre hK hN (hP.subM [] rfl) (hD.sub [] (by decide) rfl)) rfl rfl hl.1 rfl (lv_room (Nat.le_of_ble_eq_true rfl)) d_M_packet_11 ⟨Nat.zero_le _, Nat.zero_le _⟩) hP hS hA (fun H locs hP hS => ?_)
    obtain ⟨b5, hF⟩ := ss_s hF
    refine ln_if_eq hx hb b5 26 d_M_packet_14 (by decide) (fun h6 => ?_) (fun h6 => ?_)
    · have hF := it_p hF h6
      refine lv_iconst (v := (-1)) hx hb d_M_packet_26 (by decide) ?_
      obtain rfl := Option.some.inj hF
      exact kR _ _ _ _ d_M_packet_27 rfl hP hD hS
    · have hF := it_n hF h6
      obtain ⟨b7, hF⟩ := ss_s hF
      have hl : lv_has ls 2 [(0, .ref (ad 0)), (1, .int (nI v1.toNatClampNeg))] := by rw [nI_co b7]; exact hl
      refine lv_aload_n hx hb d_M_packet_17 rfl (lv_at hl 0 rfl) ?_
      refine va_get (D := D) (ci := 6) (v := .ref (ad 11)) (C := R_M) (T := F_M) (N := 30) hx hb hT in_M hown hK hP 0 rfl rfl 14 (by decide) (hT _ wd_447) (fun _ h9 => h9) rfl d_M_packet_18 ?_
      refine lv_iload_n hx hb d_M_packet_21 rfl (lv_at hl 1 rfl) ?_
      obtain ⟨b8, hF⟩ := ss_s hF
      refine ln_ald hx hb hK hP 11 0 rfl rfl b8 (by decide) d_M_packet_22 ?_
      refine lv_goto (tgt := 27) hx hb d_M_packet_23 (by decide) ?_
      obtain rfl := Option.some.inj hF
      exact kR _ _ _ _ d_M_packet_27 rfl hP hD hS
def fM_waiting (x : ST) (v1 : Int32) : Option (Int32) := ob (fwithin v1 (nI 0) (nI 2)) (fun r1 => ss (r1 < 2147483648) ((if r1 = 0 then some (-1) else ss (¬ v1 < 0) (ss (v1.toNatClampNeg < 3) (ss (((x.2 6) v1.toNatClampNeg) ≤ ((x.2 4) v1.toNatClampNeg)) (some (nI (((x.2 4) v1.toNatClampNeg) - ((x.2 6) v1.toNatClampNeg)))))))))
abbrev rm_M_waiting : Room := { frames := 1, cells := 0, slots := 0, locals := 22 }
set_option maxHeartbeats 4000000 in
set_option maxRecDepth 100000 in
theorem cM_waiting (l : Launch) (D : va_G) (ci : Nat → ClassId) (ad : Nat → Nat) (x : ST) (v1 : Int32) (o : Int32) (hF : fM_waiting x v1 = some o) : CtI l y_M_waiting w_M_waiting rm_M_waiting D vwCl (tyC ci) [.ref (ad 0), .int v1] (wM ad ci x) o (wM ad ci x) := by
  refine ct_i (cc := b_M_waiting) (maxL := 2) (plainFor_of_name (by decide)) rfl (Nat.le_of_ble_eq_true rfl) (fun p9 e9 s9 m9 args9 be9 me9 c9 A9 Q9 ls H0 hx hb hml hts hown hK hN hl hP hD hS hA kR => ?_)
  replace hl : lv_has ls 2 [(0, .ref (ad 0)), (1, .int v1)] := hl
  replace hP : va_P D vwCl [(ad 0, .inr (6, [.int (nI (x.1 0)), .int (nI (x.1 1)), .int (nI (x.1 2)), .ref (ad 1), .ref (ad 2), .ref (ad 3), .ref (ad 4), .ref (ad 5), .ref (ad 6), .ref (ad 7), .ref (ad 8), .ref (ad 9), .ref (ad 10), .int (nI (x.1 13)), .ref (ad 11), .ref (ad 12), .int (nI (x.1 16)), .int (nI (x.1 17)), .ref (ad 13), .ref (ad 14), .ref (ad 15), .ref (ad 16), .ref (ad 17), .ref (ad 18), .ref (ad 19), .ref (ad 20), .ref (ad 21), .ref (ad 22), .ref (ad 23), .ref (ad 24)])), (ad 1, .inl (ci 0, 3, .inl (nF (x.2 0)))), (ad 2, .inl (ci 0, 1536, .inl (nF (x.2 1)))), (ad 3, .inl (ci 0, 1536, .inl (nF (x.2 2)))), (ad 4, .inl (ci 0, 1536, .inl (nF (x.2 3)))), (ad 5, .inl (ci 0, 3, .inl (nF (x.2 4)))), (ad 6, .inl (ci 0, 3, .inl (nF (x.2 5)))), (ad 7, .inl (ci 0, 3, .inl (nF (x.2 6)))), (ad 8, .inl (ci 0, 3, .inl (nF (x.2 7)))), (ad 9, .inl (ci 0, 3, .inl (nF (x.2 8)))), (ad 10, .inl (ci 0, 3, .inl (nF (x.2 9)))), (ad 11, .inl (ci 0, 16, .inl (nF (x.2 10)))), (ad 12, .inl (ci 0, 16, .inl (nF (x.2 11)))), (ad 13, .inl (ci 1, 3, .inl (nF (x.2 12)))), (ad 14, .inl (ci 0, 3, .inl (nF (x.2 13)))), (ad 15, .inl (ci 1, 3, .inl (nF (x.2 14)))), (ad 16, .inl (ci 0, 3, .inl (nF (x.2 15)))), (ad 17, .inl (ci 0, 3, .inl (nF (x.2 16)))), (ad 18, .inl (ci 0, 3, .inl (nF (x.2 17)))), (ad 19, .inl (ci 0, 180, .inl (nF (x.2 18)))), (ad 20, .inl (ci 0, 180, .inl (nF (x.2 19)))), (ad 21, .inl (ci 0, 3, .inl (nF (x.2 20)))), (ad 22, .inl (ci 0, 3, .inl (nF (x.2 21)))), (ad 23, .inl (ci 0, 3, .inl (nF (x.2 22)))), (ad 24, .inl (ci 0, 6, .inl (nF (x.2 23))))] H0 := hP
  replace hD : va_D A9 [(ad 0, .inr (6, [.int (nI (x.1 0)), .int (nI (x.1 1)), .int (nI (x.1 2)), .ref (ad 1), .ref (ad 2), .ref (ad 3), .ref (ad 4), .ref (ad 5), .ref (ad 6), .ref (ad 7), .ref (ad 8), .ref (ad 9), .ref (ad 10), .int (nI (x.1 13)), .ref (ad 11), .ref (ad 12), .int (nI (x.1 16)), .int (nI (x.1 17)), .ref (ad 13), .ref (ad 14), .ref (ad 15), .ref (ad 16), .ref (ad 17), .ref (ad 18), .ref (ad 19), .ref (ad 20), .ref (ad 21), .ref (ad 22), .ref (ad 23), .ref (ad 24)])), (ad 1, .inl (ci 0, 3, .inl (nF (x.2 0)))), (ad 2, .inl (ci 0, 1536, .inl (nF (x.2 1)))), (ad 3, .inl (ci 0, 1536, .inl (nF (x.2 2)))), (ad 4, .inl (ci 0, 1536, .inl (nF (x.2 3)))), (ad 5, .inl (ci 0, 3, .inl (nF (x.2 4)))), (ad 6, .inl (ci 0, 3, .inl (nF (x.2 5)))), (ad 7, .inl (ci 0, 3, .inl (nF (x.2 6)))), (ad 8, .inl (ci 0, 3, .inl (nF (x.2 7)))), (ad 9, .inl (ci 0, 3, .inl (nF (x.2 8)))), (ad 10, .inl (ci 0, 3, .inl (nF (x.2 9)))), (ad 11, .inl (ci 0, 16, .inl (nF (x.2 10)))), (ad 12, .inl (ci 0, 16, .inl (nF (x.2 11)))), (ad 13, .inl (ci 1, 3, .inl (nF (x.2 12)))), (ad 14, .inl (ci 0, 3, .inl (nF (x.2 13)))), (ad 15, .inl (ci 1, 3, .inl (nF (x.2 14)))), (ad 16, .inl (ci 0, 3, .inl (nF (x.2 15)))), (ad 17, .inl (ci 0, 3, .inl (nF (x.2 16)))), (ad 18, .inl (ci 0, 3, .inl (nF (x.2 17)))), (ad 19, .inl (ci 0, 180, .inl (nF (x.2 18)))), (ad 20, .inl (ci 0, 180, .inl (nF (x.2 19)))), (ad 21, .inl (ci 0, 3, .inl (nF (x.2 20)))), (ad 22, .inl (ci 0, 3, .inl (nF (x.2 21)))), (ad 23, .inl (ci 0, 3, .inl (nF (x.2 22)))), (ad 24, .inl (ci 0, 6, .inl (nF (x.2 23))))] := hD
  replace hown : s9.vm.findClass R_M = some m9.cls := hown
  have hT : ∀ w ∈ lw_ok, w.before args9 s9 = true := fun w h => hts w (List.mem_cons_of_mem _ h)
  rw [fM_waiting] at hF
  generalize hH : H0 = H at hP ⊢
  replace hS : va_S A9 H0 H [] := by rw [← hH]; exact hS
  clear hH
  generalize ([] : List Loc) = locs at hS ⊢
  refine lv_iload_n hx hb d_M_waiting_0 rfl (lv_at hl 1 rfl) ?_
  refine lv_iconst (v := nI 0) hx hb d_M_waiting_1 (by decide) ?_
  refine lv_iconst (v := nI 2) hx hb d_M_waiting_2 (by decide) ?_
  obtain ⟨r1, g2, hF⟩ := ob_s hF
  refine ln_goi0 (va_runS (As := [.int v1, .int (nI 0), .int (nI 2)]) (rest := []) ⟨hx, hb, hml, hown, hT⟩ (cwithin l D ci   v1 (nI 0) (nI 2) _ g2 H.size) (cw_S 3 hT wd_529 wd_8 wd_531 wd_530 (by decide +kernel) (by decide) (by decide)) (ln_pre hK hN (hP.subM [] rfl) (hD.sub [] (by decide) rfl)) rfl rfl hl.1 rfl (lv_room (Nat.le_of_ble_eq_true rfl)) d_M_waiting_3 ⟨Nat.zero_le _, Nat.zero_le _⟩) hP hS hA (fun H locs hP hS => ?_)
  obtain ⟨b3, hF⟩ := ss_s hF
  refine ln_if_eq hx hb b3 25 d_M_waiting_6 (by decide) (fun h4 => ?_) (fun h4 => ?_)
  · have hF := it_p hF h4
    refine lv_iconst (v := (-1)) hx hb d_M_waiting_25 (by decide) ?_
    obtain rfl := Option.some.inj hF
    exact kR _ _ _ _ d_M_waiting_26 rfl hP hD hS
  · have hF := it_n hF h4
    obtain ⟨b5, hF⟩ := ss_s hF
    have hl : lv_has ls 2 [(0, .ref (ad 0)), (1, .int (nI v1.toNatClampNeg))] := by rw [nI_co b5]; exact hl
    refine lv_aload_n hx hb d_M_waiting_9 rfl (lv_at hl 0 rfl) ?_
    refine va_get (D := D) (ci := 6) (v := .ref (ad 5)) (C := R_M) (T := F_M) (N := 30) hx hb hT in_M hown hK hP 0 rfl rfl 7 (by decide) (hT _ wd_440) (fun _ h9 => h9) rfl d_M_waiting_10 ?_
    refine lv_iload_n hx hb d_M_waiting_13 rfl (lv_at hl 1 rfl) ?_
    obtain ⟨b6, hF⟩ := ss_s hF
    refine ln_ald hx hb hK hP 5 0 rfl rfl b6 (by decide) d_M_waiting_14 ?_
    refine lv_aload_n hx hb d_M_waiting_15 rfl (lv_at hl 0 rfl) ?_
    refine va_get (D := D) (ci := 6) (v := .ref (ad 7)) (C := R_M) (T := F_M) (N := 30) hx hb hT in_M hown hK hP 0 rfl rfl 9 (by decide) (hT _ wd_442) (fun _ h9 => h9) rfl d_M_waiting_16 ?_
    refine lv_iload_n hx hb d_M_waiting_19 rfl (lv_at hl 1 rfl) ?_
    refine ln_ald hx hb hK hP 7 0 rfl rfl b6 (by decide) d_M_waiting_20 ?_
    obtain ⟨b7, hF⟩ := ss_s hF
    refine ln_isub hx hb b7 d_M_waiting_21 ?_
    refine lv_goto (tgt := 26) hx hb d_M_waiting_22 (by decide) ?_
    obtain rfl := Option.some.inj hF
    exact kR _ _ _ _ d_M_waiting_26 rfl hP hD hS
def fM_stored (x : ST) (v1 : Int32) : Option (Int32) := ob (fwithin v1 (nI 0) (nI 2)) (fun r1 => ss (r1 < 2147483648) ((if r1 = 0 then some (-1) else ss (¬ v1 < 0) (ss (v1.toNatClampNeg < 3) (ss (((x.2 5) v1.toNatClampNeg) ≤ ((x.2 6) v1.toNatClampNeg)) (some (nI (((x.2 6) v1.toNatClampNeg) - ((x.2 5) v1.toNatClampNeg)))))))))
abbrev rm_M_stored : Room := { frames := 1, cells := 0, slots := 0, locals := 22 }
set_option maxHeartbeats 4000000 in
set_option maxRecDepth 100000 in
theorem cM_stored (l : Launch) (D : va_G) (ci : Nat → ClassId) (ad : Nat → Nat) (x : ST) (v1 : Int32) (o : Int32) (hF : fM_stored x v1 = some o) : CtI l y_M_stored w_M_stored rm_M_stored D vwCl (tyC ci) [.ref (ad 0), .int v1] (wM ad ci x) o (wM ad ci x) := by
  refine ct_i (cc := b_M_stored) (maxL := 2) (plainFor_of_name (by decide)) rfl (Nat.le_of_ble_eq_true rfl) (fun p9 e9 s9 m9 args9 be9 me9 c9 A9 Q9 ls H0 hx hb hml hts hown hK hN hl hP hD hS hA kR => ?_)
  replace hl : lv_has ls 2 [(0, .ref (ad 0)), (1, .int v1)] := hl
  replace hP : va_P D vwCl [(ad 0, .inr (6, [.int (nI (x.1 0)), .int (nI (x.1 1)), .int (nI (x.1 2)), .ref (ad 1), .ref (ad 2), .ref (ad 3), .ref (ad 4), .ref (ad 5), .ref (ad 6), .ref (ad 7), .ref (ad 8), .ref (ad 9), .ref (ad 10), .int (nI (x.1 13)), .ref (ad 11), .ref (ad 12), .int (nI (x.1 16)), .int (nI (x.1 17)), .ref (ad 13), .ref (ad 14), .ref (ad 15), .ref (ad 16), .ref (ad 17), .ref (ad 18), .ref (ad 19), .ref (ad 20), .ref (ad 21), .ref (ad 22), .ref (ad 23), .ref (ad 24)])), (ad 1, .inl (ci 0, 3, .inl (nF (x.2 0)))), (ad 2, .inl (ci 0, 1536, .inl (nF (x.2 1)))), (ad 3, .inl (ci 0, 1536, .inl (nF (x.2 2)))), (ad 4, .inl (ci 0, 1536, .inl (nF (x.2 3)))), (ad 5, .inl (ci 0, 3, .inl (nF (x.2 4)))), (ad 6, .inl (ci 0, 3, .inl (nF (x.2 5)))), (ad 7, .inl (ci 0, 3, .inl (nF (x.2 6)))), (ad 8, .inl (ci 0, 3, .inl (nF (x.2 7)))), (ad 9, .inl (ci 0, 3, .inl (nF (x.2 8)))), (ad 10, .inl (ci 0, 3, .inl (nF (x.2 9)))), (ad 11, .inl (ci 0, 16, .inl (nF (x.2 10)))), (ad 12, .inl (ci 0, 16, .inl (nF (x.2 11)))), (ad 13, .inl (ci 1, 3, .inl (nF (x.2 12)))), (ad 14, .inl (ci 0, 3, .inl (nF (x.2 13)))), (ad 15, .inl (ci 1, 3, .inl (nF (x.2 14)))), (ad 16, .inl (ci 0, 3, .inl (nF (x.2 15)))), (ad 17, .inl (ci 0, 3, .inl (nF (x.2 16)))), (ad 18, .inl (ci 0, 3, .inl (nF (x.2 17)))), (ad 19, .inl (ci 0, 180, .inl (nF (x.2 18)))), (ad 20, .inl (ci 0, 180, .inl (nF (x.2 19)))), (ad 21, .inl (ci 0, 3, .inl (nF (x.2 20)))), (ad 22, .inl (ci 0, 3, .inl (nF (x.2 21)))), (ad 23, .inl (ci 0, 3, .inl (nF (x.2 22)))), (ad 24, .inl (ci 0, 6, .inl (nF (x.2 23))))] H0 := hP
  replace hD : va_D A9 [(ad 0, .inr (6, [.int (nI (x.1 0)), .int (nI (x.1 1)), .int (nI (x.1 2)), .ref (ad 1), .ref (ad 2), .ref (ad 3), .ref (ad 4), .ref (ad 5), .ref (ad 6), .ref (ad 7), .ref (ad 8), .ref (ad 9), .ref (ad 10), .int (nI (x.1 13)), .ref (ad 11), .ref (ad 12), .int (nI (x.1 16)), .int (nI (x.1 17)), .ref (ad 13), .ref (ad 14), .ref (ad 15), .ref (ad 16), .ref (ad 17), .ref (ad 18), .ref (ad 19), .ref (ad 20), .ref (ad 21), .ref (ad 22), .ref (ad 23), .ref (ad 24)])), (ad 1, .inl (ci 0, 3, .inl (nF (x.2 0)))), (ad 2, .inl (ci 0, 1536, .inl (nF (x.2 1)))), (ad 3, .inl (ci 0, 1536, .inl (nF (x.2 2)))), (ad 4, .inl (ci 0, 1536, .inl (nF (x.2 3)))), (ad 5, .inl (ci 0, 3, .inl (nF (x.2 4)))), (ad 6, .inl (ci 0, 3, .inl (nF (x.2 5)))), (ad 7, .inl (ci 0, 3, .inl (nF (x.2 6)))), (ad 8, .inl (ci 0, 3, .inl (nF (x.2 7)))), (ad 9, .inl (ci 0, 3, .inl (nF (x.2 8)))), (ad 10, .inl (ci 0, 3, .inl (nF (x.2 9)))), (ad 11, .inl (ci 0, 16, .inl (nF (x.2 10)))), (ad 12, .inl (ci 0, 16, .inl (nF (x.2 11)))), (ad 13, .inl (ci 1, 3, .inl (nF (x.2 12)))), (ad 14, .inl (ci 0, 3, .inl (nF (x.2 13)))), (ad 15, .inl (ci 1, 3, .inl (nF (x.2 14)))), (ad 16, .inl (ci 0, 3, .inl (nF (x.2 15)))), (ad 17, .inl (ci 0, 3, .inl (nF (x.2 16)))), (ad 18, .inl (ci 0, 3, .inl (nF (x.2 17)))), (ad 19, .inl (ci 0, 180, .inl (nF (x.2 18)))), (ad 20, .inl (ci 0, 180, .inl (nF (x.2 19)))), (ad 21, .inl (ci 0, 3, .inl (nF (x.2 20)))), (ad 22, .inl (ci 0, 3, .inl (nF (x.2 21)))), (ad 23, .inl (ci 0, 3, .inl (nF (x.2 22)))), (ad 24, .inl (ci 0, 6, .inl (nF (x.2 23))))] := hD
  replace hown : s9.vm.findClass R_M = some m9.cls := hown
  have hT : ∀ w ∈ lw_ok, w.before args9 s9 = true := fun w h => hts w (List.mem_cons_of_mem _ h)
  rw [fM_stored] at hF
  generalize hH : H0 = H at hP ⊢
  replace hS : va_S A9 H0 H [] := by rw [← hH]; exact hS
  clear hH
  generalize ([] : List Loc) = locs at hS ⊢
  refine lv_iload_n hx hb d_M_stored_0 rfl (lv_at hl 1 rfl) ?_
  refine lv_iconst (v := nI 0) hx hb d_M_stored_1 (by decide) ?_
  refine lv_iconst (v := nI 2) hx hb d_M_stored_2 (by decide) ?_
  obtain ⟨r1, g2, hF⟩ := ob_s hF
  refine ln_goi0 (va_runS (As := [.int v1, .int (nI 0), .int (nI 2)]) (rest := []) ⟨hx, hb, hml, hown, hT⟩ (cwithin l D ci   v1 (nI 0) (nI 2) _ g2 H.size) (cw_S 3 hT wd_529 wd_8 wd_531 wd_530 (by decide +kernel) (by decide) (by decide)) (ln_pre hK hN (hP.subM [] rfl) (hD.sub [] (by decide) rfl)) rfl rfl hl.1 rfl (lv_room (Nat.le_of_ble_eq_true rfl)) d_M_stored_3 ⟨Nat.zero_le _, Nat.zero_le _⟩) hP hS hA (fun H locs hP hS => ?_)
  obtain ⟨b3, hF⟩ := ss_s hF
  refine ln_if_eq hx hb b3 25 d_M_stored_6 (by decide) (fun h4 => ?_) (fun h4 => ?_)
  · have hF := it_p hF h4
    refine lv_iconst (v := (-1)) hx hb d_M_stored_25 (by decide) ?_
    obtain rfl := Option.some.inj hF
    exact kR _ _ _ _ d_M_stored_26 rfl hP hD hS
  · have hF := it_n hF h4
    obtain ⟨b5, hF⟩ := ss_s hF
    have hl : lv_has ls 2 [(0, .ref (ad 0)), (1, .int (nI v1.toNatClampNeg))] := by rw [nI_co b5]; exact hl
    refine lv_aload_n hx hb d_M_stored_9 rfl (lv_at hl 0 rfl) ?_
    refine va_get (D := D) (ci := 6) (v := .ref (ad 7)) (C := R_M) (T := F_M) (N := 30) hx hb hT in_M hown hK hP 0 rfl rfl 9 (by decide) (hT _ wd_442) (fun _ h9 => h9) rfl d_M_stored_10 ?_
    refine lv_iload_n hx hb d_M_stored_13 rfl (lv_at hl 1 rfl) ?_
    obtain ⟨b6, hF⟩ := ss_s hF
    refine ln_ald hx hb hK hP 7 0 rfl rfl b6 (by decide) d_M_stored_14 ?_
    refine lv_aload_n hx hb d_M_stored_15 rfl (lv_at hl 0 rfl) ?_
    refine va_get (D := D) (ci := 6) (v := .ref (ad 6)) (C := R_M) (T := F_M) (N := 30) hx hb hT in_M hown hK hP 0 rfl rfl 8 (by decide) (hT _ wd_441) (fun _ h9 => h9) rfl d_M_stored_16 ?_
    refine lv_iload_n hx hb d_M_stored_19 rfl (lv_at hl 1 rfl) ?_
    refine ln_ald hx hb hK hP 6 0 rfl rfl b6 (by decide) d_M_stored_20 ?_
    obtain ⟨b7, hF⟩ := ss_s hF
    refine ln_isub hx hb b7 d_M_stored_21 ?_
    refine lv_goto (tgt := 26) hx hb d_M_stored_22 (by decide) ?_
    obtain rfl := Option.some.inj hF
    exact kR _ _ _ _ d_M_stored_26 rfl hP hD hS
def fM_levels (x : ST) (v1 : Int32) : Option (Int32) := ob (fwithin v1 (nI 0) (nI 2)) (fun r1 => ss (r1 < 2147483648) ((if ¬ r1 = 0 then ss (¬ v1 < 0) (ob (fM_high x v1.toNatClampNeg) (fun r6 => ss (v1.toNatClampNeg < 3) (some (nI ((32 * r6) + ((x.2 0) v1.toNatClampNeg)))))) else some (-1))))
abbrev rm_M_levels : Room := { frames := 1, cells := 0, slots := 0, locals := 23 }
set_option maxHeartbeats 4000000 in
set_option maxRecDepth 100000 in
theorem cM_levels (l : Launch) (D : va_G) (ci : Nat → ClassId) (ad : Nat → Nat) (x : ST) (v1 : Int32) (o : Int32) (hF : fM_levels x v1 = some o) : CtI l y_M_levels w_M_levels rm_M_levels D vwCl (tyC ci) [.ref (ad 0), .int v1] (wM ad ci x) o (wM ad ci x) := by
  refine ct_i (cc := b_M_levels) (maxL := 3) (plainFor_of_name (by decide)) rfl (Nat.le_of_ble_eq_true rfl) (fun p9 e9 s9 m9 args9 be9 me9 c9 A9 Q9 ls H0 hx hb hml hts hown hK hN hl hP hD hS hA kR => ?_)
  replace hl : lv_has ls 3 [(0, .ref (ad 0)), (1, .int v1)] := hl
  replace hP : va_P D vwCl [(ad 0, .inr (6, [.int (nI (x.1 0)), .int (nI (x.1 1)), .int (nI (x.1 2)), .ref (ad 1), .ref (ad 2), .ref (ad 3), .ref (ad 4), .ref (ad 5), .ref (ad 6), .ref (ad 7), .ref (ad 8), .ref (ad 9), .ref (ad 10), .int (nI (x.1 13)), .ref (ad 11), .ref (ad 12), .int (nI (x.1 16)), .int (nI (x.1 17)), .ref (ad 13), .ref (ad 14), .ref (ad 15), .ref (ad 16), .ref (ad 17), .ref (ad 18), .ref (ad 19), .ref (ad 20), .ref (ad 21), .ref (ad 22), .ref (ad 23), .ref (ad 24)])), (ad 1, .inl (ci 0, 3, .inl (nF (x.2 0)))), (ad 2, .inl (ci 0, 1536, .inl (nF (x.2 1)))), (ad 3, .inl (ci 0, 1536, .inl (nF (x.2 2)))), (ad 4, .inl (ci 0, 1536, .inl (nF (x.2 3)))), (ad 5, .inl (ci 0, 3, .inl (nF (x.2 4)))), (ad 6, .inl (ci 0, 3, .inl (nF (x.2 5)))), (ad 7, .inl (ci 0, 3, .inl (nF (x.2 6)))), (ad 8, .inl (ci 0, 3, .inl (nF (x.2 7)))), (ad 9, .inl (ci 0, 3, .inl (nF (x.2 8)))), (ad 10, .inl (ci 0, 3, .inl (nF (x.2 9)))), (ad 11, .inl (ci 0, 16, .inl (nF (x.2 10)))), (ad 12, .inl (ci 0, 16, .inl (nF (x.2 11)))), (ad 13, .inl (ci 1, 3, .inl (nF (x.2 12)))), (ad 14, .inl (ci 0, 3, .inl (nF (x.2 13)))), (ad 15, .inl (ci 1, 3, .inl (nF (x.2 14)))), (ad 16, .inl (ci 0, 3, .inl (nF (x.2 15)))), (ad 17, .inl (ci 0, 3, .inl (nF (x.2 16)))), (ad 18, .inl (ci 0, 3, .inl (nF (x.2 17)))), (ad 19, .inl (ci 0, 180, .inl (nF (x.2 18)))), (ad 20, .inl (ci 0, 180, .inl (nF (x.2 19)))), (ad 21, .inl (ci 0, 3, .inl (nF (x.2 20)))), (ad 22, .inl (ci 0, 3, .inl (nF (x.2 21)))), (ad 23, .inl (ci 0, 3, .inl (nF (x.2 22)))), (ad 24, .inl (ci 0, 6, .inl (nF (x.2 23))))] H0 := hP
  replace hD : va_D A9 [(ad 0, .inr (6, [.int (nI (x.1 0)), .int (nI (x.1 1)), .int (nI (x.1 2)), .ref (ad 1), .ref (ad 2), .ref (ad 3), .ref (ad 4), .ref (ad 5), .ref (ad 6), .ref (ad 7), .ref (ad 8), .ref (ad 9), .ref (ad 10), .int (nI (x.1 13)), .ref (ad 11), .ref (ad 12), .int (nI (x.1 16)), .int (nI (x.1 17)), .ref (ad 13), .ref (ad 14), .ref (ad 15), .ref (ad 16), .ref (ad 17), .ref (ad 18), .ref (ad 19), .ref (ad 20), .ref (ad 21), .ref (ad 22), .ref (ad 23), .ref (ad 24)])), (ad 1, .inl (ci 0, 3, .inl (nF (x.2 0)))), (ad 2, .inl (ci 0, 1536, .inl (nF (x.2 1)))), (ad 3, .inl (ci 0, 1536, .inl (nF (x.2 2)))), (ad 4, .inl (ci 0, 1536, .inl (nF (x.2 3)))), (ad 5, .inl (ci 0, 3, .inl (nF (x.2 4)))), (ad 6, .inl (ci 0, 3, .inl (nF (x.2 5)))), (ad 7, .inl (ci 0, 3, .inl (nF (x.2 6)))), (ad 8, .inl (ci 0, 3, .inl (nF (x.2 7)))), (ad 9, .inl (ci 0, 3, .inl (nF (x.2 8)))), (ad 10, .inl (ci 0, 3, .inl (nF (x.2 9)))), (ad 11, .inl (ci 0, 16, .inl (nF (x.2 10)))), (ad 12, .inl (ci 0, 16, .inl (nF (x.2 11)))), (ad 13, .inl (ci 1, 3, .inl (nF (x.2 12)))), (ad 14, .inl (ci 0, 3, .inl (nF (x.2 13)))), (ad 15, .inl (ci 1, 3, .inl (nF (x.2 14)))), (ad 16, .inl (ci 0, 3, .inl (nF (x.2 15)))), (ad 17, .inl (ci 0, 3, .inl (nF (x.2 16)))), (ad 18, .inl (ci 0, 3, .inl (nF (x.2 17)))), (ad 19, .inl (ci 0, 180, .inl (nF (x.2 18)))), (ad 20, .inl (ci 0, 180, .inl (nF (x.2 19)))), (ad 21, .inl (ci 0, 3, .inl (nF (x.2 20)))), (ad 22, .inl (ci 0, 3, .inl (nF (x.2 21)))), (ad 23, .inl (ci 0, 3, .inl (nF (x.2 22)))), (ad 24, .inl (ci 0, 6, .inl (nF (x.2 23))))] := hD
  replace hown : s9.vm.findClass R_M = some m9.cls := hown
  have hT : ∀ w ∈ lw_ok, w.before args9 s9 = true := fun w h => hts w (List.mem_cons_of_mem _ h)
  rw [fM_levels] at hF
  generalize hH : H0 = H at hP ⊢
  replace hS : va_S A9 H0 H [] := by rw [← hH]; exact hS
  clear hH
  generalize ([] : List Loc) = locs at hS ⊢
  refine lv_iload_n hx hb d_M_levels_0 rfl (lv_at hl 1 rfl) ?_
  refine lv_iconst (v := nI 0) hx hb d_M_levels_1 (by decide) ?_
  refine lv_iconst (v := nI 2) hx hb d_M_levels_2 (by decide) ?_
  obtain ⟨r1, g2, hF⟩ := ob_s hF
  refine ln_goi0 (va_runS (As := [.int v1, .int (nI 0), .int (nI 2)]) (rest := []) ⟨hx, hb, hml, hown, hT⟩ (cwithin l D ci   v1 (nI 0) (nI 2) _ g2 H.size) (cw_S 3 hT wd_529 wd_8 wd_531 wd_530 (by decide +kernel) (by decide) (by decide)) (ln_pre hK hN (hP.subM [] rfl) (hD.sub [] (by decide) rfl)) rfl rfl hl.1 rfl (lv_room (Nat.le_of_ble_eq_true rfl)) d_M_levels_3 ⟨Nat.zero_le _, Nat.zero_le _⟩) hP hS hA (fun H locs hP hS => ?_)
  obtain ⟨b3, hF⟩ := ss_s hF
  refine ln_if_ne hx hb b3 11 d_M_levels_6 (by decide) (fun h4 => ?_) (fun h4 => ?_)
  · have hF := it_p hF h4
    obtain ⟨b5, hF⟩ := ss_s hF
    have hl : lv_has ls 3 [(0, .ref (ad 0)), (1, .int (nI v1.toNatClampNeg))] := by rw [nI_co b5]; exact hl
    refine lv_aload_n hx hb d_M_levels_11 rfl (lv_at hl 0 rfl) ?_
    refine lv_iload_n hx hb d_M_levels_12 rfl (lv_at hl 1 rfl) ?_
    obtain ⟨r6, g7, hF⟩ := ob_s hF
    refine ln_goiA (va_runV (As := [.int (nI v1.toNatClampNeg)]) (rest := []) ⟨hx, hb, hml, hown, hT⟩ (cM_high l D ci ad x v1.toNatClampNeg _ g7 H.size) (cw_V 1 hT wd_564 wd_8 wd_567 wd_566 ws_M_high (by decide +kernel) (by decide) (by decide)) (ln_preV 0 hK hN hP rfl rfl hP hD) rfl rfl hl.1 rfl (lv_room (Nat.le_of_ble_eq_true rfl)) d_M_levels_13 ⟨Nat.zero_le _, Nat.zero_le _⟩) hD hS hA (fun H locs hP hD hS => ?_)
    replace hP : va_P D vwCl [(ad 0, .inr (6, [.int (nI (x.1 0)), .int (nI (x.1 1)), .int (nI (x.1 2)), .ref (ad 1), .ref (ad 2), .ref (ad 3), .ref (ad 4), .ref (ad 5), .ref (ad 6), .ref (ad 7), .ref (ad 8), .ref (ad 9), .ref (ad 10), .int (nI (x.1 13)), .ref (ad 11), .ref (ad 12), .int (nI (x.1 16)), .int (nI (x.1 17)), .ref (ad 13), .ref (ad 14), .ref (ad 15), .ref (ad 16), .ref (ad 17), .ref (ad 18), .ref (ad 19), .ref (ad 20), .ref (ad 21), .ref (ad 22), .ref (ad 23), .ref (ad 24)])), (ad 1, .inl (ci 0, 3, .inl (nF (x.2 0)))), (ad 2, .inl (ci 0, 1536, .inl (nF (x.2 1)))), (ad 3, .inl (ci 0, 1536, .inl (nF (x.2 2)))), (ad 4, .inl (ci 0, 1536, .inl (nF (x.2 3)))), (ad 5, .inl (ci 0, 3, .inl (nF (x.2 4)))), (ad 6, .inl (ci 0, 3, .inl (nF (x.2 5)))), (ad 7, .inl (ci 0, 3, .inl (nF (x.2 6)))), (ad 8, .inl (ci 0, 3, .inl (nF (x.2 7)))), (ad 9, .inl (ci 0, 3, .inl (nF (x.2 8)))), (ad 10, .inl (ci 0, 3, .inl (nF (x.2 9)))), (ad 11, .inl (ci 0, 16, .inl (nF (x.2 10)))), (ad 12, .inl (ci 0, 16, .inl (nF (x.2 11)))), (ad 13, .inl (ci 1, 3, .inl (nF (x.2 12)))), (ad 14, .inl (ci 0, 3, .inl (nF (x.2 13)))), (ad 15, .inl (ci 1, 3, .inl (nF (x.2 14)))), (ad 16, .inl (ci 0, 3, .inl (nF (x.2 15)))), (ad 17, .inl (ci 0, 3, .inl (nF (x.2 16)))), (ad 18, .inl (ci 0, 3, .inl (nF (x.2 17)))), (ad 19, .inl (ci 0, 180, .inl (nF (x.2 18)))), (ad 20, .inl (ci 0, 180, .inl (nF (x.2 19)))), (ad 21, .inl (ci 0, 3, .inl (nF (x.2 20)))), (ad 22, .inl (ci 0, 3, .inl (nF (x.2 21)))), (ad 23, .inl (ci 0, 3, .inl (nF (x.2 22)))), (ad 24, .inl (ci 0, 6, .inl (nF (x.2 23))))] H := hP
    replace hD : va_D A9 [(ad 0, .inr (6, [.int (nI (x.1 0)), .int (nI (x.1 1)), .int (nI (x.1 2)), .ref (ad 1), .ref (ad 2), .ref (ad 3), .ref (ad 4), .ref (ad 5), .ref (ad 6), .ref (ad 7), .ref (ad 8), .ref (ad 9), .ref (ad 10), .int (nI (x.1 13)), .ref (ad 11), .ref (ad 12), .int (nI (x.1 16)), .int (nI (x.1 17)), .ref (ad 13), .ref (ad 14), .ref (ad 15), .ref (ad 16), .ref (ad 17), .ref (ad 18), .ref (ad 19), .ref (ad 20), .ref (ad 21), .ref (ad 22), .ref (ad 23), .ref (ad 24)])), (ad 1, .inl (ci 0, 3, .inl (nF (x.2 0)))), (ad 2, .inl (ci 0, 1536, .inl (nF (x.2 1)))), (ad 3, .inl (ci 0, 1536, .inl (nF (x.2 2)))), (ad 4, .inl (ci 0, 1536, .inl (nF (x.2 3)))), (ad 5, .inl (ci 0, 3, .inl (nF (x.2 4)))), (ad 6, .inl (ci 0, 3, .inl (nF (x.2 5)))), (ad 7, .inl (ci 0, 3, .inl (nF (x.2 6)))), (ad 8, .inl (ci 0, 3, .inl (nF (x.2 7)))), (ad 9, .inl (ci 0, 3, .inl (nF (x.2 8)))), (ad 10, .inl (ci 0, 3, .inl (nF (x.2 9)))), (ad 11, .inl (ci 0, 16, .inl (nF (x.2 10)))), (ad 12, .inl (ci 0, 16, .inl (nF (x.2 11)))), (ad 13, .inl (ci 1, 3, .inl (nF (x.2 12)))), (ad 14, .inl (ci 0, 3, .inl (nF (x.2 13)))), (ad 15, .inl (ci 1, 3, .inl (nF (x.2 14)))), (ad 16, .inl (ci 0, 3, .inl (nF (x.2 15)))), (ad 17, .inl (ci 0, 3, .inl (nF (x.2 16)))), (ad 18, .inl (ci 0, 3, .inl (nF (x.2 17)))), (ad 19, .inl (ci 0, 180, .inl (nF (x.2 18)))), (ad 20, .inl (ci 0, 180, .inl (nF (x.2 19)))), (ad 21, .inl (ci 0, 3, .inl (nF (x.2 20)))), (ad 22, .inl (ci 0, 3, .inl (nF (x.2 21)))), (ad 23, .inl (ci 0, 3, .inl (nF (x.2 22)))), (ad 24, .inl (ci 0, 6, .inl (nF (x.2 23))))] := hD
    refine lv_istore_n hx hb d_M_levels_16 rfl hl (by decide) rfl (fun ls hl => ?_)
    replace hl : lv_has ls 3 [(2, .int (nI r6)), (0, .ref (ad 0)), (1, .int (nI v1.toNatClampNeg))] := hl
    refine lv_bipush (v := nI 32) hx hb d_M_levels_17 (by decide) ?_
    refine lv_iload_n hx hb d_M_levels_19 rfl (lv_at hl 0 rfl) ?_
    refine ln_imul hx hb d_M_levels_20 ?_
    refine lv_aload_n hx hb d_M_levels_21 rfl (lv_at hl 1 rfl) ?_
    refine va_get (D := D) (ci := 6) (v := .ref (ad 1)) (C := R_M) (T := F_M) (N := 30) hx hb hT in_M hown hK hP 0 rfl rfl 3 (by decide) (hT _ wd_436) (fun _ h9 => h9) rfl d_M_levels_22 ?_
    refine lv_iload_n hx hb d_M_levels_25 rfl (lv_at hl 2 rfl) ?_
    obtain ⟨b8, hF⟩ := ss_s hF
    refine ln_ald hx hb hK hP 1 0 rfl rfl b8 (by decide) d_M_levels_26 ?_
    refine ln_iadd hx hb d_M_levels_27 ?_
    obtain rfl := Option.some.inj hF
    exact kR _ _ _ _ d_M_levels_28 rfl hP hD hS
  · have hF := it_n hF h4
    refine lv_iconst (v := (-1)) hx hb d_M_levels_9 (by decide) ?_
    obtain rfl := Option.some.inj hF
    exact kR _ _ _ _ d_M_levels_10 rfl hP hD hS
def fM_late (x : ST) (v1 : Int32) : Option (Int32) := ob (fwithin v1 (nI 0) (nI 2)) (fun r1 => ss (r1 < 2147483648) ((if r1 = 0 then some (-1) else ss (¬ v1 < 0) (ss (v1.toNatClampNeg < 3) (some (nI ((x.2 8) v1.toNatClampNeg)))))))
abbrev rm_M_late : Room := { frames := 1, cells := 0, slots := 0, locals := 22 }
set_option maxHeartbeats 4000000 in
set_option maxRecDepth 100000 in
theorem cM_late (l : Launch) (D : va_G) (ci : Nat → ClassId) (ad : Nat → Nat) (x : ST) (v1 : Int32) (o : Int32) (hF : fM_late x v1 = some o) : CtI l y_M_late w_M_late rm_M_late D vwCl (tyC ci) [.ref (ad 0), .int v1] (wM ad ci x) o (wM ad ci x) := by
  refine ct_i (cc := b_M_late) (maxL := 2) (plainFor_of_name (by decide)) rfl (Nat.le_of_ble_eq_true rfl) (fun p9 e9 s9 m9 args9 be9 me9 c9 A9 Q9 ls H0 hx hb hml hts hown hK hN hl hP hD hS hA kR => ?_)
  replace hl : lv_has ls 2 [(0, .ref (ad 0)), (1, .int v1)] := hl
  replace hP : va_P D vwCl [(ad 0, .inr (6, [.int (nI (x.1 0)), .int (nI (x.1 1)), .int (nI (x.1 2)), .ref (ad 1), .ref (ad 2), .ref (ad 3), .ref (ad 4), .ref (ad 5), .ref (ad 6), .ref (ad 7), .ref (ad 8), .ref (ad 9), .ref (ad 10), .int (nI (x.1 13)), .ref (ad 11), .ref (ad 12), .int (nI (x.1 16)), .int (nI (x.1 17)), .ref (ad 13), .ref (ad 14), .ref (ad 15), .ref (ad 16), .ref (ad 17), .ref (ad 18), .ref (ad 19), .ref (ad 20), .ref (ad 21), .ref (ad 22), .ref (ad 23), .ref (ad 24)])), (ad 1, .inl (ci 0, 3, .inl (nF (x.2 0)))), (ad 2, .inl (ci 0, 1536, .inl (nF (x.2 1)))), (ad 3, .inl (ci 0, 1536, .inl (nF (x.2 2)))), (ad 4, .inl (ci 0, 1536, .inl (nF (x.2 3)))), (ad 5, .inl (ci 0, 3, .inl (nF (x.2 4)))), (ad 6, .inl (ci 0, 3, .inl (nF (x.2 5)))), (ad 7, .inl (ci 0, 3, .inl (nF (x.2 6)))), (ad 8, .inl (ci 0, 3, .inl (nF (x.2 7)))), (ad 9, .inl (ci 0, 3, .inl (nF (x.2 8)))), (ad 10, .inl (ci 0, 3, .inl (nF (x.2 9)))), (ad 11, .inl (ci 0, 16, .inl (nF (x.2 10)))), (ad 12, .inl (ci 0, 16, .inl (nF (x.2 11)))), (ad 13, .inl (ci 1, 3, .inl (nF (x.2 12)))), (ad 14, .inl (ci 0, 3, .inl (nF (x.2 13)))), (ad 15, .inl (ci 1, 3, .inl (nF (x.2 14)))), (ad 16, .inl (ci 0, 3, .inl (nF (x.2 15)))), (ad 17, .inl (ci 0, 3, .inl (nF (x.2 16)))), (ad 18, .inl (ci 0, 3, .inl (nF (x.2 17)))), (ad 19, .inl (ci 0, 180, .inl (nF (x.2 18)))), (ad 20, .inl (ci 0, 180, .inl (nF (x.2 19)))), (ad 21, .inl (ci 0, 3, .inl (nF (x.2 20)))), (ad 22, .inl (ci 0, 3, .inl (nF (x.2 21)))), (ad 23, .inl (ci 0, 3, .inl (nF (x.2 22)))), (ad 24, .inl (ci 0, 6, .inl (nF (x.2 23))))] H0 := hP
  replace hD : va_D A9 [(ad 0, .inr (6, [.int (nI (x.1 0)), .int (nI (x.1 1)), .int (nI (x.1 2)), .ref (ad 1), .ref (ad 2), .ref (ad 3), .ref (ad 4), .ref (ad 5), .ref (ad 6), .ref (ad 7), .ref (ad 8), .ref (ad 9), .ref (ad 10), .int (nI (x.1 13)), .ref (ad 11), .ref (ad 12), .int (nI (x.1 16)), .int (nI (x.1 17)), .ref (ad 13), .ref (ad 14), .ref (ad 15), .ref (ad 16), .ref (ad 17), .ref (ad 18), .ref (ad 19), .ref (ad 20), .ref (ad 21), .ref (ad 22), .ref (ad 23), .ref (ad 24)])), (ad 1, .inl (ci 0, 3, .inl (nF (x.2 0)))), (ad 2, .inl (ci 0, 1536, .inl (nF (x.2 1)))), (ad 3, .inl (ci 0, 1536, .inl (nF (x.2 2)))), (ad 4, .inl (ci 0, 1536, .inl (nF (x.2 3)))), (ad 5, .inl (ci 0, 3, .inl (nF (x.2 4)))), (ad 6, .inl (ci 0, 3, .inl (nF (x.2 5)))), (ad 7, .inl (ci 0, 3, .inl (nF (x.2 6)))), (ad 8, .inl (ci 0, 3, .inl (nF (x.2 7)))), (ad 9, .inl (ci 0, 3, .inl (nF (x.2 8)))), (ad 10, .inl (ci 0, 3, .inl (nF (x.2 9)))), (ad 11, .inl (ci 0, 16, .inl (nF (x.2 10)))), (ad 12, .inl (ci 0, 16, .inl (nF (x.2 11)))), (ad 13, .inl (ci 1, 3, .inl (nF (x.2 12)))), (ad 14, .inl (ci 0, 3, .inl (nF (x.2 13)))), (ad 15, .inl (ci 1, 3, .inl (nF (x.2 14)))), (ad 16, .inl (ci 0, 3, .inl (nF (x.2 15)))), (ad 17, .inl (ci 0, 3, .inl (nF (x.2 16)))), (ad 18, .inl (ci 0, 3, .inl (nF (x.2 17)))), (ad 19, .inl (ci 0, 180, .inl (nF (x.2 18)))), (ad 20, .inl (ci 0, 180, .inl (nF (x.2 19)))), (ad 21, .inl (ci 0, 3, .inl (nF (x.2 20)))), (ad 22, .inl (ci 0, 3, .inl (nF (x.2 21)))), (ad 23, .inl (ci 0, 3, .inl (nF (x.2 22)))), (ad 24, .inl (ci 0, 6, .inl (nF (x.2 23))))] := hD
  replace hown : s9.vm.findClass R_M = some m9.cls := hown
  have hT : ∀ w ∈ lw_ok, w.before args9 s9 = true := fun w h => hts w (List.mem_cons_of_mem _ h)
  rw [fM_late] at hF
  generalize hH : H0 = H at hP ⊢
  replace hS : va_S A9 H0 H [] := by rw [← hH]; exact hS
  clear hH
  generalize ([] : List Loc) = locs at hS ⊢
  refine lv_iload_n hx hb d_M_late_0 rfl (lv_at hl 1 rfl) ?_
  refine lv_iconst (v := nI 0) hx hb d_M_late_1 (by decide) ?_
  refine lv_iconst (v := nI 2) hx hb d_M_late_2 (by decide) ?_
  obtain ⟨r1, g2, hF⟩ := ob_s hF
  refine ln_goi0 (va_runS (As := [.int v1, .int (nI 0), .int (nI 2)]) (rest := []) ⟨hx, hb, hml, hown, hT⟩ (cwithin l D ci   v1 (nI 0) (nI 2) _ g2 H.size) (cw_S 3 hT wd_529 wd_8 wd_531 wd_530 (by decide +kernel) (by decide) (by decide)) (ln_pre hK hN (hP.subM [] rfl) (hD.sub [] (by decide) rfl)) rfl rfl hl.1 rfl (lv_room (Nat.le_of_ble_eq_true rfl)) d_M_late_3 ⟨Nat.zero_le _, Nat.zero_le _⟩) hP hS hA (fun H locs hP hS => ?_)
  obtain ⟨b3, hF⟩ := ss_s hF
  refine ln_if_eq hx hb b3 18 d_M_late_6 (by decide) (fun h4 => ?_) (fun h4 => ?_)
  · have hF := it_p hF h4
    refine lv_iconst (v := (-1)) hx hb d_M_late_18 (by decide) ?_
    obtain rfl := Option.some.inj hF
    exact kR _ _ _ _ d_M_late_19 rfl hP hD hS
  · have hF := it_n hF h4
    obtain ⟨b5, hF⟩ := ss_s hF
    have hl : lv_has ls 2 [(0, .ref (ad 0)), (1, .int (nI v1.toNatClampNeg))] := by rw [nI_co b5]; exact hl
    refine lv_aload_n hx hb d_M_late_9 rfl (lv_at hl 0 rfl) ?_
    refine va_get (D := D) (ci := 6) (v := .ref (ad 9)) (C := R_M) (T := F_M) (N := 30) hx hb hT in_M hown hK hP 0 rfl rfl 11 (by decide) (hT _ wd_444) (fun _ h9 => h9) rfl d_M_late_10 ?_
    refine lv_iload_n hx hb d_M_late_13 rfl (lv_at hl 1 rfl) ?_
    obtain ⟨b6, hF⟩ := ss_s hF
    refine ln_ald hx hb hK hP 9 0 rfl rfl b6 (by decide) d_M_late_14 ?_
    refine lv_goto (tgt := 19) hx hb d_M_late_15 (by decide) ?_
    obtain rfl := Option.some.inj hF
    exact kR _ _ _ _ d_M_late_19 rfl hP hD hS
def fM_clock (x : ST)  : Option (Int32) := ss ((x.1 16) < 2147483648) ((if (x.1 16) = 0 then some (-1) else some (nI (x.1 17))))
abbrev rm_M_clock : Room := { frames := 0, cells := 0, slots := 0, locals := 0 }
set_option maxHeartbeats 4000000 in
set_option maxRecDepth 100000 in
theorem cM_clock (l : Launch) (D : va_G) (ci : Nat → ClassId) (ad : Nat → Nat) (x : ST)  (o : Int32) (hF : fM_clock x = some o) : CtI l y_M_clock w_M_clock rm_M_clock D vwCl (tyC ci) [.ref (ad 0)] (wM ad ci x) o (wM ad ci x) := by
  refine ct_i (cc := b_M_clock) (maxL := 1) (plainFor_of_name (by decide)) rfl (Nat.le_of_ble_eq_true rfl) (fun p9 e9 s9 m9 args9 be9 me9 c9 A9 Q9 ls H0 hx hb hml hts hown hK hN hl hP hD hS hA kR => ?_)
  replace hl : lv_has ls 1 [(0, .ref (ad 0))] := hl
  replace hP : va_P D vwCl [(ad 0, .inr (6, [.int (nI (x.1 0)), .int (nI (x.1 1)), .int (nI (x.1 2)), .ref (ad 1), .ref (ad 2), .ref (ad 3), .ref (ad 4), .ref (ad 5), .ref (ad 6), .ref (ad 7), .ref (ad 8), .ref (ad 9), .ref (ad 10), .int (nI (x.1 13)), .ref (ad 11), .ref (ad 12), .int (nI (x.1 16)), .int (nI (x.1 17)), .ref (ad 13), .ref (ad 14), .ref (ad 15), .ref (ad 16), .ref (ad 17), .ref (ad 18), .ref (ad 19), .ref (ad 20), .ref (ad 21), .ref (ad 22), .ref (ad 23), .ref (ad 24)])), (ad 1, .inl (ci 0, 3, .inl (nF (x.2 0)))), (ad 2, .inl (ci 0, 1536, .inl (nF (x.2 1)))), (ad 3, .inl (ci 0, 1536, .inl (nF (x.2 2)))), (ad 4, .inl (ci 0, 1536, .inl (nF (x.2 3)))), (ad 5, .inl (ci 0, 3, .inl (nF (x.2 4)))), (ad 6, .inl (ci 0, 3, .inl (nF (x.2 5)))), (ad 7, .inl (ci 0, 3, .inl (nF (x.2 6)))), (ad 8, .inl (ci 0, 3, .inl (nF (x.2 7)))), (ad 9, .inl (ci 0, 3, .inl (nF (x.2 8)))), (ad 10, .inl (ci 0, 3, .inl (nF (x.2 9)))), (ad 11, .inl (ci 0, 16, .inl (nF (x.2 10)))), (ad 12, .inl (ci 0, 16, .inl (nF (x.2 11)))), (ad 13, .inl (ci 1, 3, .inl (nF (x.2 12)))), (ad 14, .inl (ci 0, 3, .inl (nF (x.2 13)))), (ad 15, .inl (ci 1, 3, .inl (nF (x.2 14)))), (ad 16, .inl (ci 0, 3, .inl (nF (x.2 15)))), (ad 17, .inl (ci 0, 3, .inl (nF (x.2 16)))), (ad 18, .inl (ci 0, 3, .inl (nF (x.2 17)))), (ad 19, .inl (ci 0, 180, .inl (nF (x.2 18)))), (ad 20, .inl (ci 0, 180, .inl (nF (x.2 19)))), (ad 21, .inl (ci 0, 3, .inl (nF (x.2 20)))), (ad 22, .inl (ci 0, 3, .inl (nF (x.2 21)))), (ad 23, .inl (ci 0, 3, .inl (nF (x.2 22)))), (ad 24, .inl (ci 0, 6, .inl (nF (x.2 23))))] H0 := hP
  replace hD : va_D A9 [(ad 0, .inr (6, [.int (nI (x.1 0)), .int (nI (x.1 1)), .int (nI (x.1 2)), .ref (ad 1), .ref (ad 2), .ref (ad 3), .ref (ad 4), .ref (ad 5), .ref (ad 6), .ref (ad 7), .ref (ad 8), .ref (ad 9), .ref (ad 10), .int (nI (x.1 13)), .ref (ad 11), .ref (ad 12), .int (nI (x.1 16)), .int (nI (x.1 17)), .ref (ad 13), .ref (ad 14), .ref (ad 15), .ref (ad 16), .ref (ad 17), .ref (ad 18), .ref (ad 19), .ref (ad 20), .ref (ad 21), .ref (ad 22), .ref (ad 23), .ref (ad 24)])), (ad 1, .inl (ci 0, 3, .inl (nF (x.2 0)))), (ad 2, .inl (ci 0, 1536, .inl (nF (x.2 1)))), (ad 3, .inl (ci 0, 1536, .inl (nF (x.2 2)))), (ad 4, .inl (ci 0, 1536, .inl (nF (x.2 3)))), (ad 5, .inl (ci 0, 3, .inl (nF (x.2 4)))), (ad 6, .inl (ci 0, 3, .inl (nF (x.2 5)))), (ad 7, .inl (ci 0, 3, .inl (nF (x.2 6)))), (ad 8, .inl (ci 0, 3, .inl (nF (x.2 7)))), (ad 9, .inl (ci 0, 3, .inl (nF (x.2 8)))), (ad 10, .inl (ci 0, 3, .inl (nF (x.2 9)))), (ad 11, .inl (ci 0, 16, .inl (nF (x.2 10)))), (ad 12, .inl (ci 0, 16, .inl (nF (x.2 11)))), (ad 13, .inl (ci 1, 3, .inl (nF (x.2 12)))), (ad 14, .inl (ci 0, 3, .inl (nF (x.2 13)))), (ad 15, .inl (ci 1, 3, .inl (nF (x.2 14)))), (ad 16, .inl (ci 0, 3, .inl (nF (x.2 15)))), (ad 17, .inl (ci 0, 3, .inl (nF (x.2 16)))), (ad 18, .inl (ci 0, 3, .inl (nF (x.2 17)))), (ad 19, .inl (ci 0, 180, .inl (nF (x.2 18)))), (ad 20, .inl (ci 0, 180, .inl (nF (x.2 19)))), (ad 21, .inl (ci 0, 3, .inl (nF (x.2 20)))), (ad 22, .inl (ci 0, 3, .inl (nF (x.2 21)))), (ad 23, .inl (ci 0, 3, .inl (nF (x.2 22)))), (ad 24, .inl (ci 0, 6, .inl (nF (x.2 23))))] := hD
  replace hown : s9.vm.findClass R_M = some m9.cls := hown
  have hT : ∀ w ∈ lw_ok, w.before args9 s9 = true := fun w h => hts w (List.mem_cons_of_mem _ h)
  rw [fM_clock] at hF
  generalize hH : H0 = H at hP ⊢
  replace hS : va_S A9 H0 H [] := by rw [← hH]; exact hS
  clear hH
  generalize ([] : List Loc) = locs at hS ⊢
  refine lv_aload_n hx hb d_M_clock_0 rfl (lv_at hl 0 rfl) ?_
  refine va_get (D := D) (ci := 6) (v := .int (nI (x.1 16))) (C := R_M) (T := F_M) (N := 30) hx hb hT in_M hown hK hP 0 rfl rfl 16 (by decide) (hT _ wd_449) (fun _ h9 => h9) rfl d_M_clock_1 ?_
  obtain ⟨b1, hF⟩ := ss_s hF
  refine ln_if_eq hx hb b1 14 d_M_clock_4 (by decide) (fun h2 => ?_) (fun h2 => ?_)
  · have hF := it_p hF h2
    refine lv_iconst (v := (-1)) hx hb d_M_clock_14 (by decide) ?_
    obtain rfl := Option.some.inj hF
    exact kR _ _ _ _ d_M_clock_15 rfl hP hD hS
  · have hF := it_n hF h2
    refine lv_aload_n hx hb d_M_clock_7 rfl (lv_at hl 0 rfl) ?_
    refine va_get (D := D) (ci := 6) (v := .int (nI (x.1 17))) (C := R_M) (T := F_M) (N := 30) hx hb hT in_M hown hK hP 0 rfl rfl 17 (by decide) (hT _ wd_450) (fun _ h9 => h9) rfl d_M_clock_8 ?_
    refine lv_goto (tgt := 15) hx hb d_M_clock_11 (by decide) ?_
    obtain rfl := Option.some.inj hF
    exact kR _ _ _ _ d_M_clock_15 rfl hP hD hS
def fM_retune_L7  : Nat → Nat → ST → Option (Nat × ST)
  | 0, _, _ => none
  | fu + 1, i1, u2 => ss (i1 < 2147483648) ((if 3 ≤ i1 then some (i1, u2) else ss (i1 < 3) (fM_retune_L7 fu (i1 + 1) (sA (sA (sA u2 12 (va_up (u2.2 12) i1 0)) 14 (va_up (u2.2 14) i1 0)) 22 (va_up (u2.2 22) i1 0)))))
def fM_retune_L41  : Nat → Nat → ST → Option (Nat × ST)
  | 0, _, _ => none
  | fu + 1, i11, u12 => ss (i11 < 2147483648) ((if 6 ≤ i11 then some (i11, u12) else ss (i11 < 6) (fM_retune_L41 fu (i11 + 1) (sA u12 23 (va_up (u12.2 23) i11 0)))))
def fM_retune (x : ST)  : Option (ST) := ob (fM_retune_L7  100 0 (sI x 16 0)) (fun o3 => ob (fM_retune_L41  100 0 o3.2) (fun o13 => some o13.2))
abbrev rm_M_retune : Room := { frames := 0, cells := 0, slots := 0, locals := 0 }
set_option maxHeartbeats 4000000 in
set_option maxRecDepth 100000 in
theorem cM_retune (l : Launch) (D : va_G) (ci : Nat → ClassId) (ad : Nat → Nat) (x : ST)  (o : ST) (hF : fM_retune x = some o) : CtV l y_M_retune w_M_retune rm_M_retune D vwCl (tyC ci) [.ref (ad 0)] (wM ad ci x) (wM ad ci o) := by
  refine ct_v (cc := b_M_retune) (maxL := 2) (plainFor_of_name (by decide)) rfl (Nat.le_of_ble_eq_true rfl) (fun p9 e9 s9 m9 args9 be9 me9 c9 A9 Q9 ls H0 hx hb hml hts hown hK hN hl hP hD hS hA kR => ?_)
  replace hl : lv_has ls 2 [(0, .ref (ad 0))] := hl
  replace hP : va_P D vwCl [(ad 0, .inr (6, [.int (nI (x.1 0)), .int (nI (x.1 1)), .int (nI (x.1 2)), .ref (ad 1), .ref (ad 2), .ref (ad 3), .ref (ad 4), .ref (ad 5), .ref (ad 6), .ref (ad 7), .ref (ad 8), .ref (ad 9), .ref (ad 10), .int (nI (x.1 13)), .ref (ad 11), .ref (ad 12), .int (nI (x.1 16)), .int (nI (x.1 17)), .ref (ad 13), .ref (ad 14), .ref (ad 15), .ref (ad 16), .ref (ad 17), .ref (ad 18), .ref (ad 19), .ref (ad 20), .ref (ad 21), .ref (ad 22), .ref (ad 23), .ref (ad 24)])), (ad 1, .inl (ci 0, 3, .inl (nF (x.2 0)))), (ad 2, .inl (ci 0, 1536, .inl (nF (x.2 1)))), (ad 3, .inl (ci 0, 1536, .inl (nF (x.2 2)))), (ad 4, .inl (ci 0, 1536, .inl (nF (x.2 3)))), (ad 5, .inl (ci 0, 3, .inl (nF (x.2 4)))), (ad 6, .inl (ci 0, 3, .inl (nF (x.2 5)))), (ad 7, .inl (ci 0, 3, .inl (nF (x.2 6)))), (ad 8, .inl (ci 0, 3, .inl (nF (x.2 7)))), (ad 9, .inl (ci 0, 3, .inl (nF (x.2 8)))), (ad 10, .inl (ci 0, 3, .inl (nF (x.2 9)))), (ad 11, .inl (ci 0, 16, .inl (nF (x.2 10)))), (ad 12, .inl (ci 0, 16, .inl (nF (x.2 11)))), (ad 13, .inl (ci 1, 3, .inl (nF (x.2 12)))), (ad 14, .inl (ci 0, 3, .inl (nF (x.2 13)))), (ad 15, .inl (ci 1, 3, .inl (nF (x.2 14)))), (ad 16, .inl (ci 0, 3, .inl (nF (x.2 15)))), (ad 17, .inl (ci 0, 3, .inl (nF (x.2 16)))), (ad 18, .inl (ci 0, 3, .inl (nF (x.2 17)))), (ad 19, .inl (ci 0, 180, .inl (nF (x.2 18)))), (ad 20, .inl (ci 0, 180, .inl (nF (x.2 19)))), (ad 21, .inl (ci 0, 3, .inl (nF (x.2 20)))), (ad 22, .inl (ci 0, 3, .inl (nF (x.2 21)))), (ad 23, .inl (ci 0, 3, .inl (nF (x.2 22)))), (ad 24, .inl (ci 0, 6, .inl (nF (x.2 23))))] H0 := hP
  replace hD : va_D A9 [(ad 0, .inr (6, [.int (nI (x.1 0)), .int (nI (x.1 1)), .int (nI (x.1 2)), .ref (ad 1), .ref (ad 2), .ref (ad 3), .ref (ad 4), .ref (ad 5), .ref (ad 6), .ref (ad 7), .ref (ad 8), .ref (ad 9), .ref (ad 10), .int (nI (x.1 13)), .ref (ad 11), .ref (ad 12), .int (nI (x.1 16)), .int (nI (x.1 17)), .ref (ad 13), .ref (ad 14), .ref (ad 15), .ref (ad 16), .ref (ad 17), .ref (ad 18), .ref (ad 19), .ref (ad 20), .ref (ad 21), .ref (ad 22), .ref (ad 23), .ref (ad 24)])), (ad 1, .inl (ci 0, 3, .inl (nF (x.2 0)))), (ad 2, .inl (ci 0, 1536, .inl (nF (x.2 1)))), (ad 3, .inl (ci 0, 1536, .inl (nF (x.2 2)))), (ad 4, .inl (ci 0, 1536, .inl (nF (x.2 3)))), (ad 5, .inl (ci 0, 3, .inl (nF (x.2 4)))), (ad 6, .inl (ci 0, 3, .inl (nF (x.2 5)))), (ad 7, .inl (ci 0, 3, .inl (nF (x.2 6)))), (ad 8, .inl (ci 0, 3, .inl (nF (x.2 7)))), (ad 9, .inl (ci 0, 3, .inl (nF (x.2 8)))), (ad 10, .inl (ci 0, 3, .inl (nF (x.2 9)))), (ad 11, .inl (ci 0, 16, .inl (nF (x.2 10)))), (ad 12, .inl (ci 0, 16, .inl (nF (x.2 11)))), (ad 13, .inl (ci 1, 3, .inl (nF (x.2 12)))), (ad 14, .inl (ci 0, 3, .inl (nF (x.2 13)))), (ad 15, .inl (ci 1, 3, .inl (nF (x.2 14)))), (ad 16, .inl (ci 0, 3, .inl (nF (x.2 15)))), (ad 17, .inl (ci 0, 3, .inl (nF (x.2 16)))), (ad 18, .inl (ci 0, 3, .inl (nF (x.2 17)))), (ad 19, .inl (ci 0, 180, .inl (nF (x.2 18)))), (ad 20, .inl (ci 0, 180, .inl (nF (x.2 19)))), (ad 21, .inl (ci 0, 3, .inl (nF (x.2 20)))), (ad 22, .inl (ci 0, 3, .inl (nF (x.2 21)))), (ad 23, .inl (ci 0, 3, .inl (nF (x.2 22)))), (ad 24, .inl (ci 0, 6, .inl (nF (x.2 23))))] := hD
  replace hown : s9.vm.findClass R_M = some m9.cls := hown
  have hT : ∀ w ∈ lw_ok, w.before args9 s9 = true := fun w h => hts w (List.mem_cons_of_mem _ h)
  rw [fM_retune] at hF
  generalize hH : H0 = H at hP ⊢
  replace hS : va_S A9 H0 H [] := by rw [← hH]; exact hS
  clear hH
  generalize ([] : List Loc) = locs at hS ⊢
  refine lv_aload_n hx hb d_M_retune_0 rfl (lv_at hl 0 rfl) ?_
  refine lv_iconst (v := nI 0) hx hb d_M_retune_1 (by decide) ?_
  refine va_put (D := D) (ci := 6) (v := .int (nI 0)) (ty := .boolean) (C := R_M) (T := F_M) (N := 30) hx hb hT in_M t_M ty_M nm_M hown hK hP hD hS 0 rfl rfl 16 (by decide) (hT _ wd_449) (fun _ h9 => h9) rfl (by decide +kernel) (by decide) (by decide) (Nat.le_of_ble_eq_true rfl) d_M_retune_2 (fun H locs hP hD hS => ?_)
  replace hP : va_P D vwCl [(ad 0, .inr (6, [.int (nI (x.1 0)), .int (nI (x.1 1)), .int (nI (x.1 2)), .ref (ad 1), .ref (ad 2), .ref (ad 3), .ref (ad 4), .ref (ad 5), .ref (ad 6), .ref (ad 7), .ref (ad 8), .ref (ad 9), .ref (ad 10), .int (nI (x.1 13)), .ref (ad 11), .ref (ad 12), .int (nI 0), .int (nI (x.1 17)), .ref (ad 13), .ref (ad 14), .ref (ad 15), .ref (ad 16), .ref (ad 17), .ref (ad 18), .ref (ad 19), .ref (ad 20), .ref (ad 21), .ref (ad 22), .ref (ad 23), .ref (ad 24)])), (ad 1, .inl (ci 0, 3, .inl (nF (x.2 0)))), (ad 2, .inl (ci 0, 1536, .inl (nF (x.2 1)))), (ad 3, .inl (ci 0, 1536, .inl (nF (x.2 2)))), (ad 4, .inl (ci 0, 1536, .inl (nF (x.2 3)))), (ad 5, .inl (ci 0, 3, .inl (nF (x.2 4)))), (ad 6, .inl (ci 0, 3, .inl (nF (x.2 5)))), (ad 7, .inl (ci 0, 3, .inl (nF (x.2 6)))), (ad 8, .inl (ci 0, 3, .inl (nF (x.2 7)))), (ad 9, .inl (ci 0, 3, .inl (nF (x.2 8)))), (ad 10, .inl (ci 0, 3, .inl (nF (x.2 9)))), (ad 11, .inl (ci 0, 16, .inl (nF (x.2 10)))), (ad 12, .inl (ci 0, 16, .inl (nF (x.2 11)))), (ad 13, .inl (ci 1, 3, .inl (nF (x.2 12)))), (ad 14, .inl (ci 0, 3, .inl (nF (x.2 13)))), (ad 15, .inl (ci 1, 3, .inl (nF (x.2 14)))), (ad 16, .inl (ci 0, 3, .inl (nF (x.2 15)))), (ad 17, .inl (ci 0, 3, .inl (nF (x.2 16)))), (ad 18, .inl (ci 0, 3, .inl (nF (x.2 17)))), (ad 19, .inl (ci 0, 180, .inl (nF (x.2 18)))), (ad 20, .inl (ci 0, 180, .inl (nF (x.2 19)))), (ad 21, .inl (ci 0, 3, .inl (nF (x.2 20)))), (ad 22, .inl (ci 0, 3, .inl (nF (x.2 21)))), (ad 23, .inl (ci 0, 3, .inl (nF (x.2 22)))), (ad 24, .inl (ci 0, 6, .inl (nF (x.2 23))))] H := hP
  replace hD : va_D A9 [(ad 0, .inr (6, [.int (nI (x.1 0)), .int (nI (x.1 1)), .int (nI (x.1 2)), .ref (ad 1), .ref (ad 2), .ref (ad 3), .ref (ad 4), .ref (ad 5), .ref (ad 6), .ref (ad 7), .ref (ad 8), .ref (ad 9), .ref (ad 10), .int (nI (x.1 13)), .ref (ad 11), .ref (ad 12), .int (nI 0), .int (nI (x.1 17)), .ref (ad 13), .ref (ad 14), .ref (ad 15), .ref (ad 16), .ref (ad 17), .ref (ad 18), .ref (ad 19), .ref (ad 20), .ref (ad 21), .ref (ad 22), .ref (ad 23), .ref (ad 24)])), (ad 1, .inl (ci 0, 3, .inl (nF (x.2 0)))), (ad 2, .inl (ci 0, 1536, .inl (nF (x.2 1)))), (ad 3, .inl (ci 0, 1536, .inl (nF (x.2 2)))), (ad 4, .inl (ci 0, 1536, .inl (nF (x.2 3)))), (ad 5, .inl (ci 0, 3, .inl (nF (x.2 4)))), (ad 6, .inl (ci 0, 3, .inl (nF (x.2 5)))), (ad 7, .inl (ci 0, 3, .inl (nF (x.2 6)))), (ad 8, .inl (ci 0, 3, .inl (nF (x.2 7)))), (ad 9, .inl (ci 0, 3, .inl (nF (x.2 8)))), (ad 10, .inl (ci 0, 3, .inl (nF (x.2 9)))), (ad 11, .inl (ci 0, 16, .inl (nF (x.2 10)))), (ad 12, .inl (ci 0, 16, .inl (nF (x.2 11)))), (ad 13, .inl (ci 1, 3, .inl (nF (x.2 12)))), (ad 14, .inl (ci 0, 3, .inl (nF (x.2 13)))), (ad 15, .inl (ci 1, 3, .inl (nF (x.2 14)))), (ad 16, .inl (ci 0, 3, .inl (nF (x.2 15)))), (ad 17, .inl (ci 0, 3, .inl (nF (x.2 16)))), (ad 18, .inl (ci 0, 3, .inl (nF (x.2 17)))), (ad 19, .inl (ci 0, 180, .inl (nF (x.2 18)))), (ad 20, .inl (ci 0, 180, .inl (nF (x.2 19)))), (ad 21, .inl (ci 0, 3, .inl (nF (x.2 20)))), (ad 22, .inl (ci 0, 3, .inl (nF (x.2 21)))), (ad 23, .inl (ci 0, 3, .inl (nF (x.2 22)))), (ad 24, .inl (ci 0, 6, .inl (nF (x.2 23))))] := hD
  refine lv_iconst (v := nI 0) hx hb d_M_retune_5 (by decide) ?_
  refine lv_istore_n hx hb d_M_retune_6 rfl hl (by decide) rfl (fun ls hl => ?_)
  replace hl : lv_has ls 2 [(1, .int (nI 0)), (0, .ref (ad 0))] := hl
  have L9 : ∀ (fu : Nat) (i1 : Nat) (u2 : ST) (o3 : Nat × ST) (ls : Array Slot) (H : Heap) (locs : List Loc), fM_retune_L7  fu i1 u2 = some o3 → lv_has ls 2 [(0, .ref (ad 0)), (1, .int (nI i1))] → va_P D vwCl [(ad 0, .inr (6, [.int (nI (u2.1 0)), .int (nI (u2.1 1)), .int (nI (u2.1 2)), .ref (ad 1), .ref (ad 2), .ref (ad 3), .ref (ad 4), .ref (ad 5), .ref (ad 6), .ref (ad 7), .ref (ad 8), .ref (ad 9), .ref (ad 10), .int (nI (u2.1 13)), .ref (ad 11), .ref (ad 12), .int (nI (u2.1 16)), .int (nI (u2.1 17)), .ref (ad 13), .ref (ad 14), .ref (ad 15), .ref (ad 16), .ref (ad 17), .ref (ad 18), .ref (ad 19), .ref (ad 20), .ref (ad 21), .ref (ad 22), .ref (ad 23), .ref (ad 24)])), (ad 1, .inl (ci 0, 3, .inl (nF (u2.2 0)))), (ad 2, .inl (ci 0, 1536, .inl (nF (u2.2 1)))), (ad 3, .inl (ci 0, 1536, .inl (nF (u2.2 2)))), (ad 4, .inl (ci 0, 1536, .inl (nF (u2.2 3)))), (ad 5, .inl (ci 0, 3, .inl (nF (u2.2 4)))), (ad 6, .inl (ci 0, 3, .inl (nF (u2.2 5)))), (ad 7, .inl (ci 0, 3, .inl (nF (u2.2 6)))), (ad 8, .inl (ci 0, 3, .inl (nF (u2.2 7)))), (ad 9, .inl (ci 0, 3, .inl (nF (u2.2 8)))), (ad 10, .inl (ci 0, 3, .inl (nF (u2.2 9)))), (ad 11, .inl (ci 0, 16, .inl (nF (u2.2 10)))), (ad 12, .inl (ci 0, 16, .inl (nF (u2.2 11)))), (ad 13, .inl (ci 1, 3, .inl (nF (u2.2 12)))), (ad 14, .inl (ci 0, 3, .inl (nF (u2.2 13)))), (ad 15, .inl (ci 1, 3, .inl (nF (u2.2 14)))), (ad 16, .inl (ci 0, 3, .inl (nF (u2.2 15)))), (ad 17, .inl (ci 0, 3, .inl (nF (u2.2 16)))), (ad 18, .inl (ci 0, 3, .inl (nF (u2.2 17)))), (ad 19, .inl (ci 0, 180, .inl (nF (u2.2 18)))), (ad 20, .inl (ci 0, 180, .inl (nF (u2.2 19)))), (ad 21, .inl (ci 0, 3, .inl (nF (u2.2 20)))), (ad 22, .inl (ci 0, 3, .inl (nF (u2.2 21)))), (ad 23, .inl (ci 0, 3, .inl (nF (u2.2 22)))), (ad 24, .inl (ci 0, 6, .inl (nF (u2.2 23))))] H → va_D A9 [(ad 0, .inr (6, [.int (nI (u2.1 0)), .int (nI (u2.1 1)), .int (nI (u2.1 2)), .ref (ad 1), .ref (ad 2), .ref (ad 3), .ref (ad 4), .ref (ad 5), .ref (ad 6), .ref (ad 7), .ref (ad 8), .ref (ad 9), .ref (ad 10), .int (nI (u2.1 13)), .ref (ad 11), .ref (ad 12), .int (nI (u2.1 16)), .int (nI (u2.1 17)), .ref (ad 13), .ref (ad 14), .ref (ad 15), .ref (ad 16), .ref (ad 17), .ref (ad 18), .ref (ad 19), .ref (ad 20), .ref (ad 21), .ref (ad 22), .ref (ad 23), .ref (ad 24)])), (ad 1, .inl (ci 0, 3, .inl (nF (u2.2 0)))), (ad 2, .inl (ci 0, 1536, .inl (nF (u2.2 1)))), (ad 3, .inl (ci 0, 1536, .inl (nF (u2.2 2)))), (ad 4, .inl (ci 0, 1536, .inl (nF (u2.2 3)))), (ad 5, .inl (ci 0, 3, .inl (nF (u2.2 4)))), (ad 6, .inl (ci 0, 3, .inl (nF (u2.2 5)))), (ad 7, .inl (ci 0, 3, .inl (nF (u2.2 6)))), (ad 8, .inl (ci 0, 3, .inl (nF (u2.2 7)))), (ad 9, .inl (ci 0, 3, .inl (nF (u2.2 8)))), (ad 10, .inl (ci 0, 3, .inl (nF (u2.2 9)))), (ad 11, .inl (ci 0, 16, .inl (nF (u2.2 10)))), (ad 12, .inl (ci 0, 16, .inl (nF (u2.2 11)))), (ad 13, .inl (ci 1, 3, .inl (nF (u2.2 12)))), (ad 14, .inl (ci 0, 3, .inl (nF (u2.2 13)))), (ad 15, .inl (ci 1, 3, .inl (nF (u2.2 14)))), (ad 16, .inl (ci 0, 3, .inl (nF (u2.2 15)))), (ad 17, .inl (ci 0, 3, .inl (nF (u2.2 16)))), (ad 18, .inl (ci 0, 3, .inl (nF (u2.2 17)))), (ad 19, .inl (ci 0, 180, .inl (nF (u2.2 18)))), (ad 20, .inl (ci 0, 180, .inl (nF (u2.2 19)))), (ad 21, .inl (ci 0, 3, .inl (nF (u2.2 20)))), (ad 22, .inl (ci 0, 3, .inl (nF (u2.2 21)))), (ad 23, .inl (ci 0, 3, .inl (nF (u2.2 22)))), (ad 24, .inl (ci 0, 6, .inl (nF (u2.2 23))))] → va_S A9 H0 H locs → (∀ (ls : Array Slot) (H : Heap) (locs : List Loc), lv_has ls 2 [(0, .ref (ad 0)), (1, .int (nI o3.1))] → va_P D vwCl [(ad 0, .inr (6, [.int (nI (o3.2.1 0)), .int (nI (o3.2.1 1)), .int (nI (o3.2.1 2)), .ref (ad 1), .ref (ad 2), .ref (ad 3), .ref (ad 4), .ref (ad 5), .ref (ad 6), .ref (ad 7), .ref (ad 8), .ref (ad 9), .ref (ad 10), .int (nI (o3.2.1 13)), .ref (ad 11), .ref (ad 12), .int (nI (o3.2.1 16)), .int (nI (o3.2.1 17)), .ref (ad 13), .ref (ad 14), .ref (ad 15), .ref (ad 16), .ref (ad 17), .ref (ad 18), .ref (ad 19), .ref (ad 20), .ref (ad 21), .ref (ad 22), .ref (ad 23), .ref (ad 24)])), (ad 1, .inl (ci 0, 3, .inl (nF (o3.2.2 0)))), (ad 2, .inl (ci 0, 1536, .inl (nF (o3.2.2 1)))), (ad 3, .inl (ci 0, 1536, .inl (nF (o3.2.2 2)))), (ad 4, .inl (ci 0, 1536, .inl (nF (o3.2.2 3)))), (ad 5, .inl (ci 0, 3, .inl (nF (o3.2.2 4)))), (ad 6, .inl (ci 0, 3, .inl (nF (o3.2.2 5)))), (ad 7, .inl (ci 0, 3, .inl (nF (o3.2.2 6)))), (ad 8, .inl (ci 0, 3, .inl (nF (o3.2.2 7)))), (ad 9, .inl (ci 0, 3, .inl (nF (o3.2.2 8)))), (ad 10, .inl (ci 0, 3, .inl (nF (o3.2.2 9)))), (ad 11, .inl (ci 0, 16, .inl (nF (o3.2.2 10)))), (ad 12, .inl (ci 0, 16, .inl (nF (o3.2.2 11)))), (ad 13, .inl (ci 1, 3, .inl (nF (o3.2.2 12)))), (ad 14, .inl (ci 0, 3, .inl (nF (o3.2.2 13)))), (ad 15, .inl (ci 1, 3, .inl (nF (o3.2.2 14)))), (ad 16, .inl (ci 0, 3, .inl (nF (o3.2.2 15)))), (ad 17, .inl (ci 0, 3, .inl (nF (o3.2.2 16)))), (ad 18, .inl (ci 0, 3, .inl (nF (o3.2.2 17)))), (ad 19, .inl (ci 0, 180, .inl (nF (o3.2.2 18)))), (ad 20, .inl (ci 0, 180, .inl (nF (o3.2.2 19)))), (ad 21, .inl (ci 0, 3, .inl (nF (o3.2.2 20)))), (ad 22, .inl (ci 0, 3, .inl (nF (o3.2.2 21)))), (ad 23, .inl (ci 0, 3, .inl (nF (o3.2.2 22)))), (ad 24, .inl (ci 0, 6, .inl (nF (o3.2.2 23))))] H → va_D A9 [(ad 0, .inr (6, [.int (nI (o3.2.1 0)), .int (nI (o3.2.1 1)), .int (nI (o3.2.1 2)), .ref (ad 1), .ref (ad 2), .ref (ad 3), .ref (ad 4), .ref (ad 5), .ref (ad 6), .ref (ad 7), .ref (ad 8), .ref (ad 9), .ref (ad 10), .int (nI (o3.2.1 13)), .ref (ad 11), .ref (ad 12), .int (nI (o3.2.1 16)), .int (nI (o3.2.1 17)), .ref (ad 13), .ref (ad 14), .ref (ad 15), .ref (ad 16), .ref (ad 17), .ref (ad 18), .ref (ad 19), .ref (ad 20), .ref (ad 21), .ref (ad 22), .ref (ad 23), .ref (ad 24)])), (ad 1, .inl (ci 0, 3, .inl (nF (o3.2.2 0)))), (ad 2, .inl (ci 0, 1536, .inl (nF (o3.2.2 1)))), (ad 3, .inl (ci 0, 1536, .inl (nF (o3.2.2 2)))), (ad 4, .inl (ci 0, 1536, .inl (nF (o3.2.2 3)))), (ad 5, .inl (ci 0, 3, .inl (nF (o3.2.2 4)))), (ad 6, .inl (ci 0, 3, .inl (nF (o3.2.2 5)))), (ad 7, .inl (ci 0, 3, .inl (nF (o3.2.2 6)))), (ad 8, .inl (ci 0, 3, .inl (nF (o3.2.2 7)))), (ad 9, .inl (ci 0, 3, .inl (nF (o3.2.2 8)))), (ad 10, .inl (ci 0, 3, .inl (nF (o3.2.2 9)))), (ad 11, .inl (ci 0, 16, .inl (nF (o3.2.2 10)))), (ad 12, .inl (ci 0, 16, .inl (nF (o3.2.2 11)))), (ad 13, .inl (ci 1, 3, .inl (nF (o3.2.2 12)))), (ad 14, .inl (ci 0, 3, .inl (nF (o3.2.2 13)))), (ad 15, .inl (ci 1, 3, .inl (nF (o3.2.2 14)))), (ad 16, .inl (ci 0, 3, .inl (nF (o3.2.2 15)))), (ad 17, .inl (ci 0, 3, .inl (nF (o3.2.2 16)))), (ad 18, .inl (ci 0, 3, .inl (nF (o3.2.2 17)))), (ad 19, .inl (ci 0, 180, .inl (nF (o3.2.2 18)))), (ad 20, .inl (ci 0, 180, .inl (nF (o3.2.2 19)))), (ad 21, .inl (ci 0, 3, .inl (nF (o3.2.2 20)))), (ad 22, .inl (ci 0, 3, .inl (nF (o3.2.2 21)))), (ad 23, .inl (ci 0, 3, .inl (nF (o3.2.2 22)))), (ad 24, .inl (ci 0, 6, .inl (nF (o3.2.2 23))))] → va_S A9 H0 H locs → W p9 l e9 rm_M_retune s9 m9 args9 be9 me9 c9 H locs 0 0 Q9 (F0 m9 39 ls [])) → W p9 l e9 rm_M_retune s9 m9 args9 be9 me9 c9 H locs 0 0 Q9 (F0 m9 7 ls []) := by
    intro fu
    induction fu with
    | zero => intro i1 u2 o3 ls H locs hF; rw [fM_retune_L7] at hF; cases hF
    | succ fu ih4 =>
      intro i1 u2 o3 ls H locs hF hl hP hD hS k5
      rw [fM_retune_L7] at hF
      refine lv_iload_n hx hb d_M_retune_7 rfl (lv_at hl 1 rfl) ?_
      refine lv_iconst (v := nI 3) hx hb d_M_retune_8 (by decide) ?_
      obtain ⟨b6, hF⟩ := ss_s hF
      refine ln_icmp_ge hx hb b6 (by decide) 39 d_M_retune_9 (by decide) (fun h7 => ?_) (fun h7 => ?_)
      · have hF := it_p hF h7
        obtain rfl := Option.some.inj hF
        have hl := lv_sub hl [0, 1] rfl
        exact k5 _ _ _ hl hP hD hS
      · have hF := it_n hF h7
        refine lv_aload_n hx hb d_M_retune_12 rfl (lv_at hl 0 rfl) ?_
        refine va_get (D := D) (ci := 6) (v := .ref (ad 13)) (C := R_M) (T := F_M) (N := 30) hx hb hT in_M hown hK hP 0 rfl rfl 18 (by decide) (hT _ wd_451) (fun _ h9 => h9) rfl d_M_retune_13 ?_
        refine lv_iload_n hx hb d_M_retune_16 rfl (lv_at hl 1 rfl) ?_
        refine lv_iconst (v := nI 0) hx hb d_M_retune_17 (by decide) ?_
        obtain ⟨b8, hF⟩ := ss_s hF
        refine ln_zast hx hb hK hP hD hS 13 1 rfl rfl b8 (by decide) (by decide) d_M_retune_18 (fun H locs hP hD hS => ?_)
        replace hP : va_P D vwCl [(ad 0, .inr (6, [.int (nI (u2.1 0)), .int (nI (u2.1 1)), .int (nI (u2.1 2)), .ref (ad 1), .ref (ad 2), .ref (ad 3), .ref (ad 4), .ref (ad 5), .ref (ad 6), .ref (ad 7), .ref (ad 8), .ref (ad 9), .ref (ad 10), .int (nI (u2.1 13)), .ref (ad 11), .ref (ad 12), .int (nI (u2.1 16)), .int (nI (u2.1 17)), .ref (ad 13), .ref (ad 14), .ref (ad 15), .ref (ad 16), .ref (ad 17), .ref (ad 18), .ref (ad 19), .ref (ad 20), .ref (ad 21), .ref (ad 22), .ref (ad 23), .ref (ad 24)])), (ad 1, .inl (ci 0, 3, .inl (nF (u2.2 0)))), (ad 2, .inl (ci 0, 1536, .inl (nF (u2.2 1)))), (ad 3, .inl (ci 0, 1536, .inl (nF (u2.2 2)))), (ad 4, .inl (ci 0, 1536, .inl (nF (u2.2 3)))), (ad 5, .inl (ci 0, 3, .inl (nF (u2.2 4)))), (ad 6, .inl (ci 0, 3, .inl (nF (u2.2 5)))), (ad 7, .inl (ci 0, 3, .inl (nF (u2.2 6)))), (ad 8, .inl (ci 0, 3, .inl (nF (u2.2 7)))), (ad 9, .inl (ci 0, 3, .inl (nF (u2.2 8)))), (ad 10, .inl (ci 0, 3, .inl (nF (u2.2 9)))), (ad 11, .inl (ci 0, 16, .inl (nF (u2.2 10)))), (ad 12, .inl (ci 0, 16, .inl (nF (u2.2 11)))), (ad 13, .inl (ci 1, 3, .inl (nF (va_up (u2.2 12) i1 0)))), (ad 14, .inl (ci 0, 3, .inl (nF (u2.2 13)))), (ad 15, .inl (ci 1, 3, .inl (nF (u2.2 14)))), (ad 16, .inl (ci 0, 3, .inl (nF (u2.2 15)))), (ad 17, .inl (ci 0, 3, .inl (nF (u2.2 16)))), (ad 18, .inl (ci 0, 3, .inl (nF (u2.2 17)))), (ad 19, .inl (ci 0, 180, .inl (nF (u2.2 18)))), (ad 20, .inl (ci 0, 180, .inl (nF (u2.2 19)))), (ad 21, .inl (ci 0, 3, .inl (nF (u2.2 20)))), (ad 22, .inl (ci 0, 3, .inl (nF (u2.2 21)))), (ad 23, .inl (ci 0, 3, .inl (nF (u2.2 22)))), (ad 24, .inl (ci 0, 6, .inl (nF (u2.2 23))))] H := hP
        replace hD : va_D A9 [(ad 0, .inr (6, [.int (nI (u2.1 0)), .int (nI (u2.1 1)), .int (nI (u2.1 2)), .ref (ad 1), .ref (ad 2), .ref (ad 3), .ref (ad 4), .ref (ad 5), .ref (ad 6), .ref (ad 7), .ref (ad 8), .ref (ad 9), .ref (ad 10), .int (nI (u2.1 13)), .ref (ad 11), .ref (ad 12), .int (nI (u2.1 16)), .int (nI (u2.1 17)), .ref (ad 13), .ref (ad 14), .ref (ad 15), .ref (ad 16), .ref (ad 17), .ref (ad 18), .ref (ad 19), .ref (ad 20), .ref (ad 21), .ref (ad 22), .ref (ad 23), .ref (ad 24)])), (ad 1, .inl (ci 0, 3, .inl (nF (u2.2 0)))), (ad 2, .inl (ci 0, 1536, .inl (nF (u2.2 1)))), (ad 3, .inl (ci 0, 1536, .inl (nF (u2.2 2)))), (ad 4, .inl (ci 0, 1536, .inl (nF (u2.2 3)))), (ad 5, .inl (ci 0, 3, .inl (nF (u2.2 4)))), (ad 6, .inl (ci 0, 3, .inl (nF (u2.2 5)))), (ad 7, .inl (ci 0, 3, .inl (nF (u2.2 6)))), (ad 8, .inl (ci 0, 3, .inl (nF (u2.2 7)))), (ad 9, .inl (ci 0, 3, .inl (nF (u2.2 8)))), (ad 10, .inl (ci 0, 3, .inl (nF (u2.2 9)))), (ad 11, .inl (ci 0, 16, .inl (nF (u2.2 10)))), (ad 12, .inl (ci 0, 16, .inl (nF (u2.2 11)))), (ad 13, .inl (ci 1, 3, .inl (nF (va_up (u2.2 12) i1 0)))), (ad 14, .inl (ci 0, 3, .inl (nF (u2.2 13)))), (ad 15, .inl (ci 1, 3, .inl (nF (u2.2 14)))), (ad 16, .inl (ci 0, 3, .inl (nF (u2.2 15)))), (ad 17, .inl (ci 0, 3, .inl (nF (u2.2 16)))), (ad 18, .inl (ci 0, 3, .inl (nF (u2.2 17)))), (ad 19, .inl (ci 0, 180, .inl (nF (u2.2 18)))), (ad 20, .inl (ci 0, 180, .inl (nF (u2.2 19)))), (ad 21, .inl (ci 0, 3, .inl (nF (u2.2 20)))), (ad 22, .inl (ci 0, 3, .inl (nF (u2.2 21)))), (ad 23, .inl (ci 0, 3, .inl (nF (u2.2 22)))), (ad 24, .inl (ci 0, 6, .inl (nF (u2.2 23))))] := hD
        refine lv_aload_n hx hb d_M_retune_19 rfl (lv_at hl 0 rfl) ?_
        refine va_get (D := D) (ci := 6) (v := .ref (ad 15)) (C := R_M) (T := F_M) (N := 30) hx hb hT in_M hown hK hP 0 rfl rfl 20 (by decide) (hT _ wd_453) (fun _ h9 => h9) rfl d_M_retune_20 ?_
        refine lv_iload_n hx hb d_M_retune_23 rfl (lv_at hl 1 rfl) ?_
        refine lv_iconst (v := nI 0) hx hb d_M_retune_24 (by decide) ?_
        refine ln_zast hx hb hK hP hD hS 15 1 rfl rfl b8 (by decide) (by decide) d_M_retune_25 (fun H locs hP hD hS => ?_)
        replace hP : va_P D vwCl [(ad 0, .inr (6, [.int (nI (u2.1 0)), .int (nI (u2.1 1)), .int (nI (u2.1 2)), .ref (ad 1), .ref (ad 2), .ref (ad 3), .ref (ad 4), .ref (ad 5), .ref (ad 6), .ref (ad 7), .ref (ad 8), .ref (ad 9), .ref (ad 10), .int (nI (u2.1 13)), .ref (ad 11), .ref (ad 12), .int (nI (u2.1 16)), .int (nI (u2.1 17)), .ref (ad 13), .ref (ad 14), .ref (ad 15), .ref (ad 16), .ref (ad 17), .ref (ad 18), .ref (ad 19), .ref (ad 20), .ref (ad 21), .ref (ad 22), .ref (ad 23), .ref (ad 24)])), (ad 1, .inl (ci 0, 3, .inl (nF (u2.2 0)))), (ad 2, .inl (ci 0, 1536, .inl (nF (u2.2 1)))), (ad 3, .inl (ci 0, 1536, .inl (nF (u2.2 2)))), (ad 4, .inl (ci 0, 1536, .inl (nF (u2.2 3)))), (ad 5, .inl (ci 0, 3, .inl (nF (u2.2 4)))), (ad 6, .inl (ci 0, 3, .inl (nF (u2.2 5)))), (ad 7, .inl (ci 0, 3, .inl (nF (u2.2 6)))), (ad 8, .inl (ci 0, 3, .inl (nF (u2.2 7)))), (ad 9, .inl (ci 0, 3, .inl (nF (u2.2 8)))), (ad 10, .inl (ci 0, 3, .inl (nF (u2.2 9)))), (ad 11, .inl (ci 0, 16, .inl (nF (u2.2 10)))), (ad 12, .inl (ci 0, 16, .inl (nF (u2.2 11)))), (ad 13, .inl (ci 1, 3, .inl (nF (va_up (u2.2 12) i1 0)))), (ad 14, .inl (ci 0, 3, .inl (nF (u2.2 13)))), (ad 15, .inl (ci 1, 3, .inl (nF (va_up (u2.2 14) i1 0)))), (ad 16, .inl (ci 0, 3, .inl (nF (u2.2 15)))), (ad 17, .inl (ci 0, 3, .inl (nF (u2.2 16)))), (ad 18, .inl (ci 0, 3, .inl (nF (u2.2 17)))), (ad 19, .inl (ci 0, 180, .inl (nF (u2.2 18)))), (ad 20, .inl (ci 0, 180, .inl (nF (u2.2 19)))), (ad 21, .inl (ci 0, 3, .inl (nF (u2.2 20)))), (ad 22, .inl (ci 0, 3, .inl (nF (u2.2 21)))), (ad 23, .inl (ci 0, 3, .inl (nF (u2.2 22)))), (ad 24, .inl (ci 0, 6, .inl (nF (u2.2 23))))] H := hP
        replace hD : va_D A9 [(ad 0, .inr (6, [.int (nI (u2.1 0)), .int (nI (u2.1 1)), .int (nI (u2.1 2)), .ref (ad 1), .ref (ad 2), .ref (ad 3), .ref (ad 4), .ref (ad 5), .ref (ad 6), .ref (ad 7), .ref (ad 8), .ref (ad 9), .ref (ad 10), .int (nI (u2.1 13)), .ref (ad 11), .ref (ad 12), .int (nI (u2.1 16)), .int (nI (u2.1 17)), .ref (ad 13), .ref (ad 14), .ref (ad 15), .ref (ad 16), .ref (ad 17), .ref (ad 18), .ref (ad 19), .ref (ad 20), .ref (ad 21), .ref (ad 22), .ref (ad 23), .ref (ad 24)])), (ad 1, .inl (ci 0, 3, .inl (nF (u2.2 0)))), (ad 2, .inl (ci 0, 1536, .inl (nF (u2.2 1)))), (ad 3, .inl (ci 0, 1536, .inl (nF (u2.2 2)))), (ad 4, .inl (ci 0, 1536, .inl (nF (u2.2 3)))), (ad 5, .inl (ci 0, 3, .inl (nF (u2.2 4)))), (ad 6, .inl (ci 0, 3, .inl (nF (u2.2 5)))), (ad 7, .inl (ci 0, 3, .inl (nF (u2.2 6)))), (ad 8, .inl (ci 0, 3, .inl (nF (u2.2 7)))), (ad 9, .inl (ci 0, 3, .inl (nF (u2.2 8)))), (ad 10, .inl (ci 0, 3, .inl (nF (u2.2 9)))), (ad 11, .inl (ci 0, 16, .inl (nF (u2.2 10)))), (ad 12, .inl (ci 0, 16, .inl (nF (u2.2 11)))), (ad 13, .inl (ci 1, 3, .inl (nF (va_up (u2.2 12) i1 0)))), (ad 14, .inl (ci 0, 3, .inl (nF (u2.2 13)))), (ad 15, .inl (ci 1, 3, .inl (nF (va_up (u2.2 14) i1 0)))), (ad 16, .inl (ci 0, 3, .inl (nF (u2.2 15)))), (ad 17, .inl (ci 0, 3, .inl (nF (u2.2 16)))), (ad 18, .inl (ci 0, 3, .inl (nF (u2.2 17)))), (ad 19, .inl (ci 0, 180, .inl (nF (u2.2 18)))), (ad 20, .inl (ci 0, 180, .inl (nF (u2.2 19)))), (ad 21, .inl (ci 0, 3, .inl (nF (u2.2 20)))), (ad 22, .inl (ci 0, 3, .inl (nF (u2.2 21)))), (ad 23, .inl (ci 0, 3, .inl (nF (u2.2 22)))), (ad 24, .inl (ci 0, 6, .inl (nF (u2.2 23))))] := hD
        refine lv_aload_n hx hb d_M_retune_26 rfl (lv_at hl 0 rfl) ?_
        refine va_get (D := D) (ci := 6) (v := .ref (ad 23)) (C := R_M) (T := F_M) (N := 30) hx hb hT in_M hown hK hP 0 rfl rfl 28 (by decide) (hT _ wd_461) (fun _ h9 => h9) rfl d_M_retune_27 ?_
        refine lv_iload_n hx hb d_M_retune_30 rfl (lv_at hl 1 rfl) ?_
        refine lv_iconst (v := nI 0) hx hb d_M_retune_31 (by decide) ?_
        refine ln_ast hx hb hK hP hD hS 23 0 rfl rfl b8 (by decide) d_M_retune_32 (fun H locs hP hD hS => ?_)
        replace hP : va_P D vwCl [(ad 0, .inr (6, [.int (nI (u2.1 0)), .int (nI (u2.1 1)), .int (nI (u2.1 2)), .ref (ad 1), .ref (ad 2), .ref (ad 3), .ref (ad 4), .ref (ad 5), .ref (ad 6), .ref (ad 7), .ref (ad 8), .ref (ad 9), .ref (ad 10), .int (nI (u2.1 13)), .ref (ad 11), .ref (ad 12), .int (nI (u2.1 16)), .int (nI (u2.1 17)), .ref (ad 13), .ref (ad 14), .ref (ad 15), .ref (ad 16), .ref (ad 17), .ref (ad 18), .ref (ad 19), .ref (ad 20), .ref (ad 21), .ref (ad 22), .ref (ad 23), .ref (ad 24)])), (ad 1, .inl (ci 0, 3, .inl (nF (u2.2 0)))), (ad 2, .inl (ci 0, 1536, .inl (nF (u2.2 1)))), (ad 3, .inl (ci 0, 1536, .inl (nF (u2.2 2)))), (ad 4, .inl (ci 0, 1536, .inl (nF (u2.2 3)))), (ad 5, .inl (ci 0, 3, .inl (nF (u2.2 4)))), (ad 6, .inl (ci 0, 3, .inl (nF (u2.2 5)))), (ad 7, .inl (ci 0, 3, .inl (nF (u2.2 6)))), (ad 8, .inl (ci 0, 3, .inl (nF (u2.2 7)))), (ad 9, .inl (ci 0, 3, .inl (nF (u2.2 8)))), (ad 10, .inl (ci 0, 3, .inl (nF (u2.2 9)))), (ad 11, .inl (ci 0, 16, .inl (nF (u2.2 10)))), (ad 12, .inl (ci 0, 16, .inl (nF (u2.2 11)))), (ad 13, .inl (ci 1, 3, .inl (nF (va_up (u2.2 12) i1 0)))), (ad 14, .inl (ci 0, 3, .inl (nF (u2.2 13)))), (ad 15, .inl (ci 1, 3, .inl (nF (va_up (u2.2 14) i1 0)))), (ad 16, .inl (ci 0, 3, .inl (nF (u2.2 15)))), (ad 17, .inl (ci 0, 3, .inl (nF (u2.2 16)))), (ad 18, .inl (ci 0, 3, .inl (nF (u2.2 17)))), (ad 19, .inl (ci 0, 180, .inl (nF (u2.2 18)))), (ad 20, .inl (ci 0, 180, .inl (nF (u2.2 19)))), (ad 21, .inl (ci 0, 3, .inl (nF (u2.2 20)))), (ad 22, .inl (ci 0, 3, .inl (nF (u2.2 21)))), (ad 23, .inl (ci 0, 3, .inl (nF (va_up (u2.2 22) i1 0)))), (ad 24, .inl (ci 0, 6, .inl (nF (u2.2 23))))] H := hP
        replace hD : va_D A9 [(ad 0, .inr (6, [.int (nI (u2.1 0)), .int (nI (u2.1 1)), .int (nI (u2.1 2)), .ref (ad 1), .ref (ad 2), .ref (ad 3), .ref (ad 4), .ref (ad 5), .ref (ad 6), .ref (ad 7), .ref (ad 8), .ref (ad 9), .ref (ad 10), .int (nI (u2.1 13)), .ref (ad 11), .ref (ad 12), .int (nI (u2.1 16)), .int (nI (u2.1 17)), .ref (ad 13), .ref (ad 14), .ref (ad 15), .ref (ad 16), .ref (ad 17), .ref (ad 18), .ref (ad 19), .ref (ad 20), .ref (ad 21), .ref (ad 22), .ref (ad 23), .ref (ad 24)])), (ad 1, .inl (ci 0, 3, .inl (nF (u2.2 0)))), (ad 2, .inl (ci 0, 1536, .inl (nF (u2.2 1)))), (ad 3, .inl (ci 0, 1536, .inl (nF (u2.2 2)))), (ad 4, .inl (ci 0, 1536, .inl (nF (u2.2 3)))), (ad 5, .inl (ci 0, 3, .inl (nF (u2.2 4)))), (ad 6, .inl (ci 0, 3, .inl (nF (u2.2 5)))), (ad 7, .inl (ci 0, 3, .inl (nF (u2.2 6)))), (ad 8, .inl (ci 0, 3, .inl (nF (u2.2 7)))), (ad 9, .inl (ci 0, 3, .inl (nF (u2.2 8)))), (ad 10, .inl (ci 0, 3, .inl (nF (u2.2 9)))), (ad 11, .inl (ci 0, 16, .inl (nF (u2.2 10)))), (ad 12, .inl (ci 0, 16, .inl (nF (u2.2 11)))), (ad 13, .inl (ci 1, 3, .inl (nF (va_up (u2.2 12) i1 0)))), (ad 14, .inl (ci 0, 3, .inl (nF (u2.2 13)))), (ad 15, .inl (ci 1, 3, .inl (nF (va_up (u2.2 14) i1 0)))), (ad 16, .inl (ci 0, 3, .inl (nF (u2.2 15)))), (ad 17, .inl (ci 0, 3, .inl (nF (u2.2 16)))), (ad 18, .inl (ci 0, 3, .inl (nF (u2.2 17)))), (ad 19, .inl (ci 0, 180, .inl (nF (u2.2 18)))), (ad 20, .inl (ci 0, 180, .inl (nF (u2.2 19)))), (ad 21, .inl (ci 0, 3, .inl (nF (u2.2 20)))), (ad 22, .inl (ci 0, 3, .inl (nF (u2.2 21)))), (ad 23, .inl (ci 0, 3, .inl (nF (va_up (u2.2 22) i1 0)))), (ad 24, .inl (ci 0, 6, .inl (nF (u2.2 23))))] := hD
        refine ln_iinc (k := 1) (y := i1 + 1) hx hb d_M_retune_33 hl rfl (nI_inc _) (by decide) rfl (fun ls hl => ?_)
        replace hl : lv_has ls 2 [(1, .int (nI (i1 + 1))), (0, .ref (ad 0))] := hl
        refine lv_goto (tgt := 7) hx hb d_M_retune_36 (by decide) ?_
        have hl := lv_sub hl [1, 0] rfl
        exact ih4 _ _ _ _ _ _ hF hl hP hD hS k5
  obtain ⟨o3, g10, hF⟩ := ob_s hF
  have hl := lv_sub hl [1, 0] rfl
  refine L9 _ _ _ _ _ _ _ g10 hl hP hD hS (fun ls H locs hl hP hD hS => ?_)
  refine lv_iconst (v := nI 0) hx hb d_M_retune_39 (by decide) ?_
  refine lv_istore_n hx hb d_M_retune_40 rfl hl (by decide) rfl (fun ls hl => ?_)
  replace hl : lv_has ls 2 [(1, .int (nI 0)), (0, .ref (ad 0))] := hl
  have L19 : ∀ (fu : Nat) (i11 : Nat) (u12 : ST) (o13 : Nat × ST) (ls : Array Slot) (H : Heap) (locs : List Loc), fM_retune_L41  fu i11 u12 = some o13 → lv_has ls 2 [(0, .ref (ad 0)), (1, .int (nI i11))] → va_P D vwCl [(ad 0, .inr (6, [.int (nI (u12.1 0)), .int (nI (u12.1 1)), .int (nI (u12.1 2)), .ref (ad 1), .ref (ad 2), .ref (ad 3), .ref (ad 4), .ref (ad 5), .ref (ad 6), .ref (ad 7), .ref (ad 8), .ref (ad 9), .ref (ad 10), .int (nI (u12.1 13)), .ref (ad 11), .ref (ad 12), .int (nI (u12.1 16)), .int (nI (u12.1 17)), .ref (ad 13), .ref (ad 14), .ref (ad 15), .ref (ad 16), .ref (ad 17), .ref (ad 18), .ref (ad 19), .ref (ad 20), .ref (ad 21), .ref (ad 22), .ref (ad 23), .ref (ad 24)])), (ad 1, .inl (ci 0, 3, .inl (nF (u12.2 0)))), (ad 2, .inl (ci 0, 1536, .inl (nF (u12.2 1)))), (ad 3, .inl (ci 0, 1536, .inl (nF (u12.2 2)))), (ad 4, .inl (ci 0, 1536, .inl (nF (u12.2 3)))), (ad 5, .inl (ci 0, 3, .inl (nF (u12.2 4)))), (ad 6, .inl (ci 0, 3, .inl (nF (u12.2 5)))), (ad 7, .inl (ci 0, 3, .inl (nF (u12.2 6)))), (ad 8, .inl (ci 0, 3, .inl (nF (u12.2 7)))), (ad 9, .inl (ci 0, 3, .inl (nF (u12.2 8)))), (ad 10, .inl (ci 0, 3, .inl (nF (u12.2 9)))), (ad 11, .inl (ci 0, 16, .inl (nF (u12.2 10)))), (ad 12, .inl (ci 0, 16, .inl (nF (u12.2 11)))), (ad 13, .inl (ci 1, 3, .inl (nF (u12.2 12)))), (ad 14, .inl (ci 0, 3, .inl (nF (u12.2 13)))), (ad 15, .inl (ci 1, 3, .inl (nF (u12.2 14)))), (ad 16, .inl (ci 0, 3, .inl (nF (u12.2 15)))), (ad 17, .inl (ci 0, 3, .inl (nF (u12.2 16)))), (ad 18, .inl (ci 0, 3, .inl (nF (u12.2 17)))), (ad 19, .inl (ci 0, 180, .inl (nF (u12.2 18)))), (ad 20, .inl (ci 0, 180, .inl (nF (u12.2 19)))), (ad 21, .inl (ci 0, 3, .inl (nF (u12.2 20)))), (ad 22, .inl (ci 0, 3, .inl (nF (u12.2 21)))), (ad 23, .inl (ci 0, 3, .inl (nF (u12.2 22)))), (ad 24, .inl (ci 0, 6, .inl (nF (u12.2 23))))] H → va_D A9 [(ad 0, .inr (6, [.int (nI (u12.1 0)), .int (nI (u12.1 1)), .int (nI (u12.1 2)), .ref (ad 1), .ref (ad 2), .ref (ad 3), .ref (ad 4), .ref (ad 5), .ref (ad 6), .ref (ad 7), .ref (ad 8), .ref (ad 9), .ref (ad 10), .int (nI (u12.1 13)), .ref (ad 11), .ref (ad 12), .int (nI (u12.1 16)), .int (nI (u12.1 17)), .ref (ad 13), .ref (ad 14), .ref (ad 15), .ref (ad 16), .ref (ad 17), .ref (ad 18), .ref (ad 19), .ref (ad 20), .ref (ad 21), .ref (ad 22), .ref (ad 23), .ref (ad 24)])), (ad 1, .inl (ci 0, 3, .inl (nF (u12.2 0)))), (ad 2, .inl (ci 0, 1536, .inl (nF (u12.2 1)))), (ad 3, .inl (ci 0, 1536, .inl (nF (u12.2 2)))), (ad 4, .inl (ci 0, 1536, .inl (nF (u12.2 3)))), (ad 5, .inl (ci 0, 3, .inl (nF (u12.2 4)))), (ad 6, .inl (ci 0, 3, .inl (nF (u12.2 5)))), (ad 7, .inl (ci 0, 3, .inl (nF (u12.2 6)))), (ad 8, .inl (ci 0, 3, .inl (nF (u12.2 7)))), (ad 9, .inl (ci 0, 3, .inl (nF (u12.2 8)))), (ad 10, .inl (ci 0, 3, .inl (nF (u12.2 9)))), (ad 11, .inl (ci 0, 16, .inl (nF (u12.2 10)))), (ad 12, .inl (ci 0, 16, .inl (nF (u12.2 11)))), (ad 13, .inl (ci 1, 3, .inl (nF (u12.2 12)))), (ad 14, .inl (ci 0, 3, .inl (nF (u12.2 13)))), (ad 15, .inl (ci 1, 3, .inl (nF (u12.2 14)))), (ad 16, .inl (ci 0, 3, .inl (nF (u12.2 15)))), (ad 17, .inl (ci 0, 3, .inl (nF (u12.2 16)))), (ad 18, .inl (ci 0, 3, .inl (nF (u12.2 17)))), (ad 19, .inl (ci 0, 180, .inl (nF (u12.2 18)))), (ad 20, .inl (ci 0, 180, .inl (nF (u12.2 19)))), (ad 21, .inl (ci 0, 3, .inl (nF (u12.2 20)))), (ad 22, .inl (ci 0, 3, .inl (nF (u12.2 21)))), (ad 23, .inl (ci 0, 3, .inl (nF (u12.2 22)))), (ad 24, .inl (ci 0, 6, .inl (nF (u12.2 23))))] → va_S A9 H0 H locs → (∀ (ls : Array Slot) (H : Heap) (locs : List Loc), lv_has ls 2 [(0, .ref (ad 0)), (1, .int (nI o13.1))] → va_P D vwCl [(ad 0, .inr (6, [.int (nI (o13.2.1 0)), .int (nI (o13.2.1 1)), .int (nI (o13.2.1 2)), .ref (ad 1), .ref (ad 2), .ref (ad 3), .ref (ad 4), .ref (ad 5), .ref (ad 6), .ref (ad 7), .ref (ad 8), .ref (ad 9), .ref (ad 10), .int (nI (o13.2.1 13)), .ref (ad 11), .ref (ad 12), .int (nI (o13.2.1 16)), .int (nI (o13.2.1 17)), .ref (ad 13), .ref (ad 14), .ref (ad 15), .ref (ad 16), .ref (ad 17), .ref (ad 18), .ref (ad 19), .ref (ad 20), .ref (ad 21), .ref (ad 22), .ref (ad 23), .ref (ad 24)])), (ad 1, .inl (ci 0, 3, .inl (nF (o13.2.2 0)))), (ad 2, .inl (ci 0, 1536, .inl (nF (o13.2.2 1)))), (ad 3, .inl (ci 0, 1536, .inl (nF (o13.2.2 2)))), (ad 4, .inl (ci 0, 1536, .inl (nF (o13.2.2 3)))), (ad 5, .inl (ci 0, 3, .inl (nF (o13.2.2 4)))), (ad 6, .inl (ci 0, 3, .inl (nF (o13.2.2 5)))), (ad 7, .inl (ci 0, 3, .inl (nF (o13.2.2 6)))), (ad 8, .inl (ci 0, 3, .inl (nF (o13.2.2 7)))), (ad 9, .inl (ci 0, 3, .inl (nF (o13.2.2 8)))), (ad 10, .inl (ci 0, 3, .inl (nF (o13.2.2 9)))), (ad 11, .inl (ci 0, 16, .inl (nF (o13.2.2 10)))), (ad 12, .inl (ci 0, 16, .inl (nF (o13.2.2 11)))), (ad 13, .inl (ci 1, 3, .inl (nF (o13.2.2 12)))), (ad 14, .inl (ci 0, 3, .inl (nF (o13.2.2 13)))), (ad 15, .inl (ci 1, 3, .inl (nF (o13.2.2 14)))), (ad 16, .inl (ci 0, 3, .inl (nF (o13.2.2 15)))), (ad 17, .inl (ci 0, 3, .inl (nF (o13.2.2 16)))), (ad 18, .inl (ci 0, 3, .inl (nF (o13.2.2 17)))), (ad 19, .inl (ci 0, 180, .inl (nF (o13.2.2 18)))), (ad 20, .inl (ci 0, 180, .inl (nF (o13.2.2 19)))), (ad 21, .inl (ci 0, 3, .inl (nF (o13.2.2 20)))), (ad 22, .inl (ci 0, 3, .inl (nF (o13.2.2 21)))), (ad 23, .inl (ci 0, 3, .inl (nF (o13.2.2 22)))), (ad 24, .inl (ci 0, 6, .inl (nF (o13.2.2 23))))] H → va_D A9 [(ad 0, .inr (6, [.int (nI (o13.2.1 0)), .int (nI (o13.2.1 1)), .int (nI (o13.2.1 2)), .ref (ad 1), .ref (ad 2), .ref (ad 3), .ref (ad 4), .ref (ad 5), .ref (ad 6), .ref (ad 7), .ref (ad 8), .ref (ad 9), .ref (ad 10), .int (nI (o13.2.1 13)), .ref (ad 11), .ref (ad 12), .int (nI (o13.2.1 16)), .int (nI (o13.2.1 17)), .ref (ad 13), .ref (ad 14), .ref (ad 15), .ref (ad 16), .ref (ad 17), .ref (ad 18), .ref (ad 19), .ref (ad 20), .ref (ad 21), .ref (ad 22), .ref (ad 23), .ref (ad 24)])), (ad 1, .inl (ci 0, 3, .inl (nF (o13.2.2 0)))), (ad 2, .inl (ci 0, 1536, .inl (nF (o13.2.2 1)))), (ad 3, .inl (ci 0, 1536, .inl (nF (o13.2.2 2)))), (ad 4, .inl (ci 0, 1536, .inl (nF (o13.2.2 3)))), (ad 5, .inl (ci 0, 3, .inl (nF (o13.2.2 4)))), (ad 6, .inl (ci 0, 3, .inl (nF (o13.2.2 5)))), (ad 7, .inl (ci 0, 3, .inl (nF (o13.2.2 6)))), (ad 8, .inl (ci 0, 3, .inl (nF (o13.2.2 7)))), (ad 9, .inl (ci 0, 3, .inl (nF (o13.2.2 8)))), (ad 10, .inl (ci 0, 3, .inl (nF (o13.2.2 9)))), (ad 11, .inl (ci 0, 16, .inl (nF (o13.2.2 10)))), (ad 12, .inl (ci 0, 16, .inl (nF (o13.2.2 11)))), (ad 13, .inl (ci 1, 3, .inl (nF (o13.2.2 12)))), (ad 14, .inl (ci 0, 3, .inl (nF (o13.2.2 13)))), (ad 15, .inl (ci 1, 3, .inl (nF (o13.2.2 14)))), (ad 16, .inl (ci 0, 3, .inl (nF (o13.2.2 15)))), (ad 17, .inl (ci 0, 3, .inl (nF (o13.2.2 16)))), (ad 18, .inl (ci 0, 3, .inl (nF (o13.2.2 17)))), (ad 19, .inl (ci 0, 180, .inl (nF (o13.2.2 18)))), (ad 20, .inl (ci 0, 180, .inl (nF (o13.2.2 19)))), (ad 21, .inl (ci 0, 3, .inl (nF (o13.2.2 20)))), (ad 22, .inl (ci 0, 3, .inl (nF (o13.2.2 21)))), (ad 23, .inl (ci 0, 3, .inl (nF (o13.2.2 22)))), (ad 24, .inl (ci 0, 6, .inl (nF (o13.2.2 23))))] → va_S A9 H0 H locs → W p9 l e9 rm_M_retune s9 m9 args9 be9 me9 c9 H locs 0 0 Q9 (F0 m9 60 ls [])) → W p9 l e9 rm_M_retune s9 m9 args9 be9 me9 c9 H locs 0 0 Q9 (F0 m9 41 ls []) := by
    intro fu
    induction fu with
    | zero => intro i11 u12 o13 ls H locs hF; rw [fM_retune_L41] at hF; cases hF
    | succ fu ih14 =>
      intro i11 u12 o13 ls H locs hF hl hP hD hS k15
      rw [fM_retune_L41] at hF
      refine lv_iload_n hx hb d_M_retune_41 rfl (lv_at hl 1 rfl) ?_
      refine lv_bipush (v := nI 6) hx hb d_M_retune_42 (by decide) ?_
      obtain ⟨b16, hF⟩ := ss_s hF
      refine ln_icmp_ge hx hb b16 (by decide) 60 d_M_retune_44 (by decide) (fun h17 => ?_) (fun h17 => ?_)
      · have hF := it_p hF h17
        obtain rfl := Option.some.inj hF
        have hl := lv_sub hl [0, 1] rfl
        exact k15 _ _ _ hl hP hD hS
      · have hF := it_n hF h17
        refine lv_aload_n hx hb d_M_retune_47 rfl (lv_at hl 0 rfl) ?_
        refine va_get (D := D) (ci := 6) (v := .ref (ad 24)) (C := R_M) (T := F_M) (N := 30) hx hb hT in_M hown hK hP 0 rfl rfl 29 (by decide) (hT _ wd_462) (fun _ h9 => h9) rfl d_M_retune_48 ?_
        refine lv_iload_n hx hb d_M_retune_51 rfl (lv_at hl 1 rfl) ?_
        refine lv_iconst (v := nI 0) hx hb d_M_retune_52 (by decide) ?_
        obtain ⟨b18, hF⟩ := ss_s hF
        refine ln_ast hx hb hK hP hD hS 24 0 rfl rfl b18 (by decide) d_M_retune_53 (fun H locs hP hD hS => ?_)
        replace hP : va_P D vwCl [(ad 0, .inr (6, [.int (nI (u12.1 0)), .int (nI (u12.1 1)), .int (nI (u12.1 2)), .ref (ad 1), .ref (ad 2), .ref (ad 3), .ref (ad 4), .ref (ad 5), .ref (ad 6), .ref (ad 7), .ref (ad 8), .ref (ad 9), .ref (ad 10), .int (nI (u12.1 13)), .ref (ad 11), .ref (ad 12), .int (nI (u12.1 16)), .int (nI (u12.1 17)), .ref (ad 13), .ref (ad 14), .ref (ad 15), .ref (ad 16), .ref (ad 17), .ref (ad 18), .ref (ad 19), .ref (ad 20), .ref (ad 21), .ref (ad 22), .ref (ad 23), .ref (ad 24)])), (ad 1, .inl (ci 0, 3, .inl (nF (u12.2 0)))), (ad 2, .inl (ci 0, 1536, .inl (nF (u12.2 1)))), (ad 3, .inl (ci 0, 1536, .inl (nF (u12.2 2)))), (ad 4, .inl (ci 0, 1536, .inl (nF (u12.2 3)))), (ad 5, .inl (ci 0, 3, .inl (nF (u12.2 4)))), (ad 6, .inl (ci 0, 3, .inl (nF (u12.2 5)))), (ad 7, .inl (ci 0, 3, .inl (nF (u12.2 6)))), (ad 8, .inl (ci 0, 3, .inl (nF (u12.2 7)))), (ad 9, .inl (ci 0, 3, .inl (nF (u12.2 8)))), (ad 10, .inl (ci 0, 3, .inl (nF (u12.2 9)))), (ad 11, .inl (ci 0, 16, .inl (nF (u12.2 10)))), (ad 12, .inl (ci 0, 16, .inl (nF (u12.2 11)))), (ad 13, .inl (ci 1, 3, .inl (nF (u12.2 12)))), (ad 14, .inl (ci 0, 3, .inl (nF (u12.2 13)))), (ad 15, .inl (ci 1, 3, .inl (nF (u12.2 14)))), (ad 16, .inl (ci 0, 3, .inl (nF (u12.2 15)))), (ad 17, .inl (ci 0, 3, .inl (nF (u12.2 16)))), (ad 18, .inl (ci 0, 3, .inl (nF (u12.2 17)))), (ad 19, .inl (ci 0, 180, .inl (nF (u12.2 18)))), (ad 20, .inl (ci 0, 180, .inl (nF (u12.2 19)))), (ad 21, .inl (ci 0, 3, .inl (nF (u12.2 20)))), (ad 22, .inl (ci 0, 3, .inl (nF (u12.2 21)))), (ad 23, .inl (ci 0, 3, .inl (nF (u12.2 22)))), (ad 24, .inl (ci 0, 6, .inl (nF (va_up (u12.2 23) i11 0))))] H := hP
        replace hD : va_D A9 [(ad 0, .inr (6, [.int (nI (u12.1 0)), .int (nI (u12.1 1)), .int (nI (u12.1 2)), .ref (ad 1), .ref (ad 2), .ref (ad 3), .ref (ad 4), .ref (ad 5), .ref (ad 6), .ref (ad 7), .ref (ad 8), .ref (ad 9), .ref (ad 10), .int (nI (u12.1 13)), .ref (ad 11), .ref (ad 12), .int (nI (u12.1 16)), .int (nI (u12.1 17)), .ref (ad 13), .ref (ad 14), .ref (ad 15), .ref (ad 16), .ref (ad 17), .ref (ad 18), .ref (ad 19), .ref (ad 20), .ref (ad 21), .ref (ad 22), .ref (ad 23), .ref (ad 24)])), (ad 1, .inl (ci 0, 3, .inl (nF (u12.2 0)))), (ad 2, .inl (ci 0, 1536, .inl (nF (u12.2 1)))), (ad 3, .inl (ci 0, 1536, .inl (nF (u12.2 2)))), (ad 4, .inl (ci 0, 1536, .inl (nF (u12.2 3)))), (ad 5, .inl (ci 0, 3, .inl (nF (u12.2 4)))), (ad 6, .inl (ci 0, 3, .inl (nF (u12.2 5)))), (ad 7, .inl (ci 0, 3, .inl (nF (u12.2 6)))), (ad 8, .inl (ci 0, 3, .inl (nF (u12.2 7)))), (ad 9, .inl (ci 0, 3, .inl (nF (u12.2 8)))), (ad 10, .inl (ci 0, 3, .inl (nF (u12.2 9)))), (ad 11, .inl (ci 0, 16, .inl (nF (u12.2 10)))), (ad 12, .inl (ci 0, 16, .inl (nF (u12.2 11)))), (ad 13, .inl (ci 1, 3, .inl (nF (u12.2 12)))), (ad 14, .inl (ci 0, 3, .inl (nF (u12.2 13)))), (ad 15, .inl (ci 1, 3, .inl (nF (u12.2 14)))), (ad 16, .inl (ci 0, 3, .inl (nF (u12.2 15)))), (ad 17, .inl (ci 0, 3, .inl (nF (u12.2 16)))), (ad 18, .inl (ci 0, 3, .inl (nF (u12.2 17)))), (ad 19, .inl (ci 0, 180, .inl (nF (u12.2 18)))), (ad 20, .inl (ci 0, 180, .inl (nF (u12.2 19)))), (ad 21, .inl (ci 0, 3, .inl (nF (u12.2 20)))), (ad 22, .inl (ci 0, 3, .inl (nF (u12.2 21)))), (ad 23, .inl (ci 0, 3, .inl (nF (u12.2 22)))), (ad 24, .inl (ci 0, 6, .inl (nF (va_up (u12.2 23) i11 0))))] := hD
        refine ln_iinc (k := 1) (y := i11 + 1) hx hb d_M_retune_54 hl rfl (nI_inc _) (by decide) rfl (fun ls hl => ?_)
        replace hl : lv_has ls 2 [(1, .int (nI (i11 + 1))), (0, .ref (ad 0))] := hl
        refine lv_goto (tgt := 41) hx hb d_M_retune_57 (by decide) ?_
        have hl := lv_sub hl [1, 0] rfl
        exact ih14 _ _ _ _ _ _ hF hl hP hD hS k15
  obtain ⟨o13, g20, hF⟩ := ob_s hF
  have hl := lv_sub hl [1, 0] rfl
  refine L19 _ _ _ _ _ _ _ g20 hl hP hD hS (fun ls H locs hl hP hD hS => ?_)
  obtain rfl := Option.some.inj hF
  exact kR _ _ _ _ d_M_retune_60 hP hD hS
def fM_count (x : ST) (v1 : Int32) : Option (Int32) := ob (fwithin v1 (nI 0) (nI 5)) (fun r1 => ss (r1 < 2147483648) ((if r1 = 0 then some (-1) else ss (¬ v1 < 0) (ss (v1.toNatClampNeg < 6) (some (nI ((x.2 23) v1.toNatClampNeg)))))))
abbrev rm_M_count : Room := { frames := 1, cells := 0, slots := 0, locals := 22 }
set_option maxHeartbeats 4000000 in
set_option maxRecDepth 100000 in
theorem cM_count (l : Launch) (D : va_G) (ci : Nat → ClassId) (ad : Nat → Nat) (x : ST) (v1 : Int32) (o : Int32) (hF : fM_count x v1 = some o) : CtI l y_M_count w_M_count rm_M_count D vwCl (tyC ci) [.ref (ad 0), .int v1] (wM ad ci x) o (wM ad ci x) := by
  refine ct_i (cc := b_M_count) (maxL := 2) (plainFor_of_name (by decide)) rfl (Nat.le_of_ble_eq_true rfl) (fun p9 e9 s9 m9 args9 be9 me9 c9 A9 Q9 ls H0 hx hb hml hts hown hK hN hl hP hD hS hA kR => ?_)
  replace hl : lv_has ls 2 [(0, .ref (ad 0)), (1, .int v1)] := hl
  replace hP : va_P D vwCl [(ad 0, .inr (6, [.int (nI (x.1 0)), .int (nI (x.1 1)), .int (nI (x.1 2)), .ref (ad 1), .ref (ad 2), .ref (ad 3), .ref (ad 4), .ref (ad 5), .ref (ad 6), .ref (ad 7), .ref (ad 8), .ref (ad 9), .ref (ad 10), .int (nI (x.1 13)), .ref (ad 11), .ref (ad 12), .int (nI (x.1 16)), .int (nI (x.1 17)), .ref (ad 13), .ref (ad 14), .ref (ad 15), .ref (ad 16), .ref (ad 17), .ref (ad 18), .ref (ad 19), .ref (ad 20), .ref (ad 21), .ref (ad 22), .ref (ad 23), .ref (ad 24)])), (ad 1, .inl (ci 0, 3, .inl (nF (x.2 0)))), (ad 2, .inl (ci 0, 1536, .inl (nF (x.2 1)))), (ad 3, .inl (ci 0, 1536, .inl (nF (x.2 2)))), (ad 4, .inl (ci 0, 1536, .inl (nF (x.2 3)))), (ad 5, .inl (ci 0, 3, .inl (nF (x.2 4)))), (ad 6, .inl (ci 0, 3, .inl (nF (x.2 5)))), (ad 7, .inl (ci 0, 3, .inl (nF (x.2 6)))), (ad 8, .inl (ci 0, 3, .inl (nF (x.2 7)))), (ad 9, .inl (ci 0, 3, .inl (nF (x.2 8)))), (ad 10, .inl (ci 0, 3, .inl (nF (x.2 9)))), (ad 11, .inl (ci 0, 16, .inl (nF (x.2 10)))), (ad 12, .inl (ci 0, 16, .inl (nF (x.2 11)))), (ad 13, .inl (ci 1, 3, .inl (nF (x.2 12)))), (ad 14, .inl (ci 0, 3, .inl (nF (x.2 13)))), (ad 15, .inl (ci 1, 3, .inl (nF (x.2 14)))), (ad 16, .inl (ci 0, 3, .inl (nF (x.2 15)))), (ad 17, .inl (ci 0, 3, .inl (nF (x.2 16)))), (ad 18, .inl (ci 0, 3, .inl (nF (x.2 17)))), (ad 19, .inl (ci 0, 180, .inl (nF (x.2 18)))), (ad 20, .inl (ci 0, 180, .inl (nF (x.2 19)))), (ad 21, .inl (ci 0, 3, .inl (nF (x.2 20)))), (ad 22, .inl (ci 0, 3, .inl (nF (x.2 21)))), (ad 23, .inl (ci 0, 3, .inl (nF (x.2 22)))), (ad 24, .inl (ci 0, 6, .inl (nF (x.2 23))))] H0 := hP
  replace hD : va_D A9 [(ad 0, .inr (6, [.int (nI (x.1 0)), .int (nI (x.1 1)), .int (nI (x.1 2)), .ref (ad 1), .ref (ad 2), .ref (ad 3), .ref (ad 4), .ref (ad 5), .ref (ad 6), .ref (ad 7), .ref (ad 8), .ref (ad 9), .ref (ad 10), .int (nI (x.1 13)), .ref (ad 11), .ref (ad 12), .int (nI (x.1 16)), .int (nI (x.1 17)), .ref (ad 13), .ref (ad 14), .ref (ad 15), .ref (ad 16), .ref (ad 17), .ref (ad 18), .ref (ad 19), .ref (ad 20), .ref (ad 21), .ref (ad 22), .ref (ad 23), .ref (ad 24)])), (ad 1, .inl (ci 0, 3, .inl (nF (x.2 0)))), (ad 2, .inl (ci 0, 1536, .inl (nF (x.2 1)))), (ad 3, .inl (ci 0, 1536, .inl (nF (x.2 2)))), (ad 4, .inl (ci 0, 1536, .inl (nF (x.2 3)))), (ad 5, .inl (ci 0, 3, .inl (nF (x.2 4)))), (ad 6, .inl (ci 0, 3, .inl (nF (x.2 5)))), (ad 7, .inl (ci 0, 3, .inl (nF (x.2 6)))), (ad 8, .inl (ci 0, 3, .inl (nF (x.2 7)))), (ad 9, .inl (ci 0, 3, .inl (nF (x.2 8)))), (ad 10, .inl (ci 0, 3, .inl (nF (x.2 9)))), (ad 11, .inl (ci 0, 16, .inl (nF (x.2 10)))), (ad 12, .inl (ci 0, 16, .inl (nF (x.2 11)))), (ad 13, .inl (ci 1, 3, .inl (nF (x.2 12)))), (ad 14, .inl (ci 0, 3, .inl (nF (x.2 13)))), (ad 15, .inl (ci 1, 3, .inl (nF (x.2 14)))), (ad 16, .inl (ci 0, 3, .inl (nF (x.2 15)))), (ad 17, .inl (ci 0, 3, .inl (nF (x.2 16)))), (ad 18, .inl (ci 0, 3, .inl (nF (x.2 17)))), (ad 19, .inl (ci 0, 180, .inl (nF (x.2 18)))), (ad 20, .inl (ci 0, 180, .inl (nF (x.2 19)))), (ad 21, .inl (ci 0, 3, .inl (nF (x.2 20)))), (ad 22, .inl (ci 0, 3, .inl (nF (x.2 21)))), (ad 23, .inl (ci 0, 3, .inl (nF (x.2 22)))), (ad 24, .inl (ci 0, 6, .inl (nF (x.2 23))))] := hD
  replace hown : s9.vm.findClass R_M = some m9.cls := hown
  have hT : ∀ w ∈ lw_ok, w.before args9 s9 = true := fun w h => hts w (List.mem_cons_of_mem _ h)
  rw [fM_count] at hF
  generalize hH : H0 = H at hP ⊢
  replace hS : va_S A9 H0 H [] := by rw [← hH]; exact hS
  clear hH
  generalize ([] : List Loc) = locs at hS ⊢
  refine lv_iload_n hx hb d_M_count_0 rfl (lv_at hl 1 rfl) ?_
  refine lv_iconst (v := nI 0) hx hb d_M_count_1 (by decide) ?_
  refine lv_iconst (v := nI 5) hx hb d_M_count_2 (by decide) ?_
  obtain ⟨r1, g2, hF⟩ := ob_s hF
  refine ln_goi0 (va_runS (As := [.int v1, .int (nI 0), .int (nI 5)]) (rest := []) ⟨hx, hb, hml, hown, hT⟩ (cwithin l D ci   v1 (nI 0) (nI 5) _ g2 H.size) (cw_S 3 hT wd_529 wd_8 wd_531 wd_530 (by decide +kernel) (by decide) (by decide)) (ln_pre hK hN (hP.subM [] rfl) (hD.sub [] (by decide) rfl)) rfl rfl hl.1 rfl (lv_room (Nat.le_of_ble_eq_true rfl)) d_M_count_3 ⟨Nat.zero_le _, Nat.zero_le _⟩) hP hS hA (fun H locs hP hS => ?_)
  obtain ⟨b3, hF⟩ := ss_s hF
  refine ln_if_eq hx hb b3 18 d_M_count_6 (by decide) (fun h4 => ?_) (fun h4 => ?_)
  · have hF := it_p hF h4
    refine lv_iconst (v := (-1)) hx hb d_M_count_18 (by decide) ?_
    obtain rfl := Option.some.inj hF
    exact kR _ _ _ _ d_M_count_19 rfl hP hD hS
  · have hF := it_n hF h4
    obtain ⟨b5, hF⟩ := ss_s hF
    have hl : lv_has ls 2 [(0, .ref (ad 0)), (1, .int (nI v1.toNatClampNeg))] := by rw [nI_co b5]; exact hl
    refine lv_aload_n hx hb d_M_count_9 rfl (lv_at hl 0 rfl) ?_
    refine va_get (D := D) (ci := 6) (v := .ref (ad 24)) (C := R_M) (T := F_M) (N := 30) hx hb hT in_M hown hK hP 0 rfl rfl 29 (by decide) (hT _ wd_462) (fun _ h9 => h9) rfl d_M_count_10 ?_
    refine lv_iload_n hx hb d_M_count_13 rfl (lv_at hl 1 rfl) ?_
    obtain ⟨b6, hF⟩ := ss_s hF
    refine ln_ald hx hb hK hP 24 0 rfl rfl b6 (by decide) d_M_count_14 ?_
    refine lv_goto (tgt := 19) hx hb d_M_count_15 (by decide) ?_
    obtain rfl := Option.some.inj hF
    exact kR _ _ _ _ d_M_count_19 rfl hP hD hS
def fM_latest (x : ST) (v1 : Int32) (v2 : Int32) : Option (Int32) := ob (fwithin v1 (nI 0) (nI 2)) (fun r1 => ss (r1 < 2147483648) ((if r1 = 0 then some (-1) else ss (¬ v1 < 0) (ss (v1.toNatClampNeg < 3) (ss (((x.2 22) v1.toNatClampNeg) < 2147483648) ((if ((x.2 22) v1.toNatClampNeg) = 0 then some (-1) else ob (fwithin v2 (nI 0) (nI 2)) (fun r9 => ss (r9 < 2147483648) ((if ¬ r9 = 0 then (if ¬ v2 = 0 then (if ¬ v2 = (nI 1) then some (nI ((x.2 22) v1.toNatClampNeg)) else some (nI ((x.2 21) v1.toNatClampNeg))) else some (nI ((x.2 20) v1.toNatClampNeg))) else some (-1)))))))))))
abbrev rm_M_latest : Room := { frames := 1, cells := 0, slots := 0, locals := 22 }
set_option maxHeartbeats 4000000 in
set_option maxRecDepth 100000 in
theorem cM_latest (l : Launch) (D : va_G) (ci : Nat → ClassId) (ad : Nat → Nat) (x : ST) (v1 : Int32) (v2 : Int32) (o : Int32) (hF : fM_latest x v1 v2 = some o) : CtI l y_M_latest w_M_latest rm_M_latest D vwCl (tyC ci) [.ref (ad 0), .int v1, .int v2] (wM ad ci x) o (wM ad ci x) := by
  refine ct_i (cc := b_M_latest) (maxL := 3) (plainFor_of_name (by decide)) rfl (Nat.le_of_ble_eq_true rfl) (fun p9 e9 s9 m9 args9 be9 me9 c9 A9 Q9 ls H0 hx hb hml hts hown hK hN hl hP hD hS hA kR => ?_)
  replace hl : lv_has ls 3 [(0, .ref (ad 0)), (1, .int v1), (2, .int v2)] := hl
  replace hP : va_P D vwCl [(ad 0, .inr (6, [.int (nI (x.1 0)), .int (nI (x.1 1)), .int (nI (x.1 2)), .ref (ad 1), .ref (ad 2), .ref (ad 3), .ref (ad 4), .ref (ad 5), .ref (ad 6), .ref (ad 7), .ref (ad 8), .ref (ad 9), .ref (ad 10), .int (nI (x.1 13)), .ref (ad 11), .ref (ad 12), .int (nI (x.1 16)), .int (nI (x.1 17)), .ref (ad 13), .ref (ad 14), .ref (ad 15), .ref (ad 16), .ref (ad 17), .ref (ad 18), .ref (ad 19), .ref (ad 20), .ref (ad 21), .ref (ad 22), .ref (ad 23), .ref (ad 24)])), (ad 1, .inl (ci 0, 3, .inl (nF (x.2 0)))), (ad 2, .inl (ci 0, 1536, .inl (nF (x.2 1)))), (ad 3, .inl (ci 0, 1536, .inl (nF (x.2 2)))), (ad 4, .inl (ci 0, 1536, .inl (nF (x.2 3)))), (ad 5, .inl (ci 0, 3, .inl (nF (x.2 4)))), (ad 6, .inl (ci 0, 3, .inl (nF (x.2 5)))), (ad 7, .inl (ci 0, 3, .inl (nF (x.2 6)))), (ad 8, .inl (ci 0, 3, .inl (nF (x.2 7)))), (ad 9, .inl (ci 0, 3, .inl (nF (x.2 8)))), (ad 10, .inl (ci 0, 3, .inl (nF (x.2 9)))), (ad 11, .inl (ci 0, 16, .inl (nF (x.2 10)))), (ad 12, .inl (ci 0, 16, .inl (nF (x.2 11)))), (ad 13, .inl (ci 1, 3, .inl (nF (x.2 12)))), (ad 14, .inl (ci 0, 3, .inl (nF (x.2 13)))), (ad 15, .inl (ci 1, 3, .inl (nF (x.2 14)))), (ad 16, .inl (ci 0, 3, .inl (nF (x.2 15)))), (ad 17, .inl (ci 0, 3, .inl (nF (x.2 16)))), (ad 18, .inl (ci 0, 3, .inl (nF (x.2 17)))), (ad 19, .inl (ci 0, 180, .inl (nF (x.2 18)))), (ad 20, .inl (ci 0, 180, .inl (nF (x.2 19)))), (ad 21, .inl (ci 0, 3, .inl (nF (x.2 20)))), (ad 22, .inl (ci 0, 3, .inl (nF (x.2 21)))), (ad 23, .inl (ci 0, 3, .inl (nF (x.2 22)))), (ad 24, .inl (ci 0, 6, .inl (nF (x.2 23))))] H0 := hP
  replace hD : va_D A9 [(ad 0, .inr (6, [.int (nI (x.1 0)), .int (nI (x.1 1)), .int (nI (x.1 2)), .ref (ad 1), .ref (ad 2), .ref (ad 3), .ref (ad 4), .ref (ad 5), .ref (ad 6), .ref (ad 7), .ref (ad 8), .ref (ad 9), .ref (ad 10), .int (nI (x.1 13)), .ref (ad 11), .ref (ad 12), .int (nI (x.1 16)), .int (nI (x.1 17)), .ref (ad 13), .ref (ad 14), .ref (ad 15), .ref (ad 16), .ref (ad 17), .ref (ad 18), .ref (ad 19), .ref (ad 20), .ref (ad 21), .ref (ad 22), .ref (ad 23), .ref (ad 24)])), (ad 1, .inl (ci 0, 3, .inl (nF (x.2 0)))), (ad 2, .inl (ci 0, 1536, .inl (nF (x.2 1)))), (ad 3, .inl (ci 0, 1536, .inl (nF (x.2 2)))), (ad 4, .inl (ci 0, 1536, .inl (nF (x.2 3)))), (ad 5, .inl (ci 0, 3, .inl (nF (x.2 4)))), (ad 6, .inl (ci 0, 3, .inl (nF (x.2 5)))), (ad 7, .inl (ci 0, 3, .inl (nF (x.2 6)))), (ad 8, .inl (ci 0, 3, .inl (nF (x.2 7)))), (ad 9, .inl (ci 0, 3, .inl (nF (x.2 8)))), (ad 10, .inl (ci 0, 3, .inl (nF (x.2 9)))), (ad 11, .inl (ci 0, 16, .inl (nF (x.2 10)))), (ad 12, .inl (ci 0, 16, .inl (nF (x.2 11)))), (ad 13, .inl (ci 1, 3, .inl (nF (x.2 12)))), (ad 14, .inl (ci 0, 3, .inl (nF (x.2 13)))), (ad 15, .inl (ci 1, 3, .inl (nF (x.2 14)))), (ad 16, .inl (ci 0, 3, .inl (nF (x.2 15)))), (ad 17, .inl (ci 0, 3, .inl (nF (x.2 16)))), (ad 18, .inl (ci 0, 3, .inl (nF (x.2 17)))), (ad 19, .inl (ci 0, 180, .inl (nF (x.2 18)))), (ad 20, .inl (ci 0, 180, .inl (nF (x.2 19)))), (ad 21, .inl (ci 0, 3, .inl (nF (x.2 20)))), (ad 22, .inl (ci 0, 3, .inl (nF (x.2 21)))), (ad 23, .inl (ci 0, 3, .inl (nF (x.2 22)))), (ad 24, .inl (ci 0, 6, .inl (nF (x.2 23))))] := hD
  replace hown : s9.vm.findClass R_M = some m9.cls := hown
  have hT : ∀ w ∈ lw_ok, w.before args9 s9 = true := fun w h => hts w (List.mem_cons_of_mem _ h)
  rw [fM_latest] at hF
  generalize hH : H0 = H at hP ⊢
  replace hS : va_S A9 H0 H [] := by rw [← hH]; exact hS
  clear hH
  generalize ([] : List Loc) = locs at hS ⊢
  refine lv_iload_n hx hb d_M_latest_0 rfl (lv_at hl 1 rfl) ?_
  refine lv_iconst (v := nI 0) hx hb d_M_latest_1 (by decide) ?_
  refine lv_iconst (v := nI 2) hx hb d_M_latest_2 (by decide) ?_
  obtain ⟨r1, g2, hF⟩ := ob_s hF
  refine ln_goi0 (va_runS (As := [.int v1, .int (nI 0), .int (nI 2)]) (rest := []) ⟨hx, hb, hml, hown, hT⟩ (cwithin l D ci   v1 (nI 0) (nI 2) _ g2 H.size) (cw_S 3 hT wd_529 wd_8 wd_531 wd_530 (by decide +kernel) (by decide) (by decide)) (ln_pre hK hN (hP.subM [] rfl) (hD.sub [] (by decide) rfl)) rfl rfl hl.1 rfl (lv_room (Nat.le_of_ble_eq_true rfl)) d_M_latest_3 ⟨Nat.zero_le _, Nat.zero_le _⟩) hP hS hA (fun H locs hP hS => ?_)
  obtain ⟨b3, hF⟩ := ss_s hF
  refine ln_if_eq hx hb b3 27 d_M_latest_6 (by decide) (fun h4 => ?_) (fun h4 => ?_)
  · have hF := it_p hF h4
    refine lv_iconst (v := (-1)) hx hb d_M_latest_27 (by decide) ?_
    obtain rfl := Option.some.inj hF
    exact kR _ _ _ _ d_M_latest_28 rfl hP hD hS
  · have hF := it_n hF h4
    obtain ⟨b5, hF⟩ := ss_s hF
    have hl : lv_has ls 3 [(0, .ref (ad 0)), (1, .int (nI v1.toNatClampNeg)), (2, .int v2)] := by rw [nI_co b5]; exact hl
    refine lv_aload_n hx hb d_M_latest_9 rfl (lv_at hl 0 rfl) ?_
    refine va_get (D := D) (ci := 6) (v := .ref (ad 23)) (C := R_M) (T := F_M) (N := 30) hx hb hT in_M hown hK hP 0 rfl rfl 28 (by decide) (hT _ wd_461) (fun _ h9 => h9) rfl d_M_latest_10 ?_
    refine lv_iload_n hx hb d_M_latest_13 rfl (lv_at hl 1 rfl) ?_
    obtain ⟨b6, hF⟩ := ss_s hF
    refine ln_ald hx hb hK hP 23 0 rfl rfl b6 (by decide) d_M_latest_14 ?_
    obtain ⟨b7, hF⟩ := ss_s hF
    refine ln_if_eq hx hb b7 27 d_M_latest_15 (by decide) (fun h8 => ?_) (fun h8 => ?_)
    · have hF := it_p hF h8
      refine lv_iconst (v := (-1)) hx hb d_M_latest_27 (by decide) ?_
      obtain rfl := Option.some.inj hF
      exact kR _ _ _ _ d_M_latest_28 rfl hP hD hS
    · have hF := it_n hF h8
      refine lv_iload_n hx hb d_M_latest_18 rfl (lv_at hl 2 rfl) ?_
      refine lv_iconst (v := nI 0) hx hb d_M_latest_19 (by decide) ?_
      refine lv_iconst (v := nI 2) hx hb d_M_latest_20 (by decide) ?_
      obtain ⟨r9, g10, hF⟩ := ob_s hF
      refine ln_goi0 (va_runS (As := [.int v2, .int (nI 0), .int (nI 2)]) (rest := []) ⟨hx, hb, hml, hown, hT⟩ (cwithin l D ci   v2 (nI 0) (nI 2) _ g10 H.size) (cw_S 3 hT wd_529 wd_8 wd_531 wd_530 (by decide +kernel) (by decide) (by decide)) (ln_pre hK hN (hP.subM [] rfl) (hD.sub [] (by decide) rfl)) rfl rfl hl.1 rfl (lv_room (Nat.le_of_ble_eq_true rfl)) d_M_latest_21 ⟨Nat.zero_le _, Nat.zero_le _⟩) hP hS hA (fun H locs hP hS => ?_)
      obtain ⟨b11, hF⟩ := ss_s hF
      refine ln_if_ne hx hb b11 29 d_M_latest_24 (by decide) (fun h12 => ?_) (fun h12 => ?_)
      · have hF := it_p hF h12
        refine lv_iload_n hx hb d_M_latest_29 rfl (lv_at hl 2 rfl) ?_
        refine lv_if_ne (tgt := 42) hx hb d_M_latest_30 (by decide) (fun h13 => ?_) (fun h13 => ?_)
        · have hF := it_p hF h13
          refine lv_iload_n hx hb d_M_latest_42 rfl (lv_at hl 2 rfl) ?_
          refine lv_iconst (v := nI 1) hx hb d_M_latest_43 (by decide) ?_
          refine lv_icmp_ne (tgt := 56) hx hb d_M_latest_44 (by decide) (fun h14 => ?_) (fun h14 => ?_)
          · have hF := it_p hF h14
            refine lv_aload_n hx hb d_M_latest_56 rfl (lv_at hl 0 rfl) ?_
            refine va_get (D := D) (ci := 6) (v := .ref (ad 23)) (C := R_M) (T := F_M) (N := 30) hx hb hT in_M hown hK hP 0 rfl rfl 28 (by decide) (hT _ wd_461) (fun _ h9 => h9) rfl d_M_latest_57 ?_
            refine lv_iload_n hx hb d_M_latest_60 rfl (lv_at hl 1 rfl) ?_
            refine ln_ald hx hb hK hP 23 0 rfl rfl b6 (by decide) d_M_latest_61 ?_
            obtain rfl := Option.some.inj hF
            exact kR _ _ _ _ d_M_latest_62 rfl hP hD hS
          · have hF := it_n hF (fun h9 => h9 h14)
            refine lv_aload_n hx hb d_M_latest_47 rfl (lv_at hl 0 rfl) ?_
            refine va_get (D := D) (ci := 6) (v := .ref (ad 22)) (C := R_M) (T := F_M) (N := 30) hx hb hT in_M hown hK hP 0 rfl rfl 27 (by decide) (hT _ wd_460) (fun _ h9 => h9) rfl d_M_latest_48 ?_
            refine lv_iload_n hx hb d_M_latest_51 rfl (lv_at hl 1 rfl) ?_
            refine ln_ald hx hb hK hP 22 0 rfl rfl b6 (by decide) d_M_latest_52 ?_
            refine lv_goto (tgt := 62) hx hb d_M_latest_53 (by decide) ?_
            obtain rfl := Option.some.inj hF
            exact kR _ _ _ _ d_M_latest_62 rfl hP hD hS
        · have hF := it_n hF (fun h9 => h9 h13)
          refine lv_aload_n hx hb d_M_latest_33 rfl (lv_at hl 0 rfl) ?_
          refine va_get (D := D) (ci := 6) (v := .ref (ad 21)) (C := R_M) (T := F_M) (N := 30) hx hb hT in_M hown hK hP 0 rfl rfl 26 (by decide) (hT _ wd_459) (fun _ h9 => h9) rfl d_M_latest_34 ?_
          refine lv_iload_n hx hb d_M_latest_37 rfl (lv_at hl 1 rfl) ?_
          refine ln_ald hx hb hK hP 21 0 rfl rfl b6 (by decide) d_M_latest_38 ?_
          refine lv_goto (tgt := 62) hx hb d_M_latest_39 (by decide) ?_
          obtain rfl := Option.some.inj hF
          exact kR _ _ _ _ d_M_latest_62 rfl hP hD hS
      · have hF := it_n hF h12
        refine lv_iconst (v := (-1)) hx hb d_M_latest_27 (by decide) ?_
        obtain rfl := Option.some.inj hF
        exact kR _ _ _ _ d_M_latest_28 rfl hP hD hS
def fM_letter (x : ST) (v1 : Int32) (v2 : Int32) : Option (Int32) := ob (fwithin v1 (nI 0) (nI 2)) (fun r1 => ss (r1 < 2147483648) ((if r1 = 0 then some (-1) else ss (¬ v1 < 0) (ss (v1.toNatClampNeg < 3) (ss (((x.2 22) v1.toNatClampNeg) < 2147483648) ((if ((x.2 22) v1.toNatClampNeg) = 0 then some (-1) else ss (1 ≤ ((x.2 20) v1.toNatClampNeg)) (ob (fwithin v2 (nI 0) (nI (((x.2 20) v1.toNatClampNeg) - 1))) (fun r10 => ss (r10 < 2147483648) ((if ¬ r10 = 0 then ss (¬ v2 < 0) (ss (((60 * v1.toNatClampNeg) + v2.toNatClampNeg) < 180) (some (nI ((x.2 19) ((60 * v1.toNatClampNeg) + v2.toNatClampNeg))))) else some (-1))))))))))))
abbrev rm_M_letter : Room := { frames := 1, cells := 0, slots := 0, locals := 22 }
set_option maxHeartbeats 4000000 in
set_option maxRecDepth 100000 in
theorem cM_letter (l : Launch) (D : va_G) (ci : Nat → ClassId) (ad : Nat → Nat) (x : ST) (v1 : Int32) (v2 : Int32) (o : Int32) (hF : fM_letter x v1 v2 = some o) : CtI l y_M_letter w_M_letter rm_M_letter D vwCl (tyC ci) [.ref (ad 0), .int v1, .int v2] (wM ad ci x) o (wM ad ci x) := by
  refine ct_i (cc := b_M_letter) (maxL := 3) (plainFor_of_name (by decide)) rfl (Nat.le_of_ble_eq_true rfl) (fun p9 e9 s9 m9 args9 be9 me9 c9 A9 Q9 ls H0 hx hb hml hts hown hK hN hl hP hD hS hA kR => ?_)
  replace hl : lv_has ls 3 [(0, .ref (ad 0)), (1, .int v1), (2, .int v2)] := hl
  replace hP : va_P D vwCl [(ad 0, .inr (6, [.int (nI (x.1 0)), .int (nI (x.1 1)), .int (nI (x.1 2)), .ref (ad 1), .ref (ad 2), .ref (ad 3), .ref (ad 4), .ref (ad 5), .ref (ad 6), .ref (ad 7), .ref (ad 8), .ref (ad 9), .ref (ad 10), .int (nI (x.1 13)), .ref (ad 11), .ref (ad 12), .int (nI (x.1 16)), .int (nI (x.1 17)), .ref (ad 13), .ref (ad 14), .ref (ad 15), .ref (ad 16), .ref (ad 17), .ref (ad 18), .ref (ad 19), .ref (ad 20), .ref (ad 21), .ref (ad 22), .ref (ad 23), .ref (ad 24)])), (ad 1, .inl (ci 0, 3, .inl (nF (x.2 0)))), (ad 2, .inl (ci 0, 1536, .inl (nF (x.2 1)))), (ad 3, .inl (ci 0, 1536, .inl (nF (x.2 2)))), (ad 4, .inl (ci 0, 1536, .inl (nF (x.2 3)))), (ad 5, .inl (ci 0, 3, .inl (nF (x.2 4)))), (ad 6, .inl (ci 0, 3, .inl (nF (x.2 5)))), (ad 7, .inl (ci 0, 3, .inl (nF (x.2 6)))), (ad 8, .inl (ci 0, 3, .inl (nF (x.2 7)))), (ad 9, .inl (ci 0, 3, .inl (nF (x.2 8)))), (ad 10, .inl (ci 0, 3, .inl (nF (x.2 9)))), (ad 11, .inl (ci 0, 16, .inl (nF (x.2 10)))), (ad 12, .inl (ci 0, 16, .inl (nF (x.2 11)))), (ad 13, .inl (ci 1, 3, .inl (nF (x.2 12)))), (ad 14, .inl (ci 0, 3, .inl (nF (x.2 13)))), (ad 15, .inl (ci 1, 3, .inl (nF (x.2 14)))), (ad 16, .inl (ci 0, 3, .inl (nF (x.2 15)))), (ad 17, .inl (ci 0, 3, .inl (nF (x.2 16)))), (ad 18, .inl (ci 0, 3, .inl (nF (x.2 17)))), (ad 19, .inl (ci 0, 180, .inl (nF (x.2 18)))), (ad 20, .inl (ci 0, 180, .inl (nF (x.2 19)))), (ad 21, .inl (ci 0, 3, .inl (nF (x.2 20)))), (ad 22, .inl (ci 0, 3, .inl (nF (x.2 21)))), (ad 23, .inl (ci 0, 3, .inl (nF (x.2 22)))), (ad 24, .inl (ci 0, 6, .inl (nF (x.2 23))))] H0 := hP
  replace hD : va_D A9 [(ad 0, .inr (6, [.int (nI (x.1 0)), .int (nI (x.1 1)), .int (nI (x.1 2)), .ref (ad 1), .ref (ad 2), .ref (ad 3), .ref (ad 4), .ref (ad 5), .ref (ad 6), .ref (ad 7), .ref (ad 8), .ref (ad 9), .ref (ad 10), .int (nI (x.1 13)), .ref (ad 11), .ref (ad 12), .int (nI (x.1 16)), .int (nI (x.1 17)), .ref (ad 13), .ref (ad 14), .ref (ad 15), .ref (ad 16), .ref (ad 17), .ref (ad 18), .ref (ad 19), .ref (ad 20), .ref (ad 21), .ref (ad 22), .ref (ad 23), .ref (ad 24)])), (ad 1, .inl (ci 0, 3, .inl (nF (x.2 0)))), (ad 2, .inl (ci 0, 1536, .inl (nF (x.2 1)))), (ad 3, .inl (ci 0, 1536, .inl (nF (x.2 2)))), (ad 4, .inl (ci 0, 1536, .inl (nF (x.2 3)))), (ad 5, .inl (ci 0, 3, .inl (nF (x.2 4)))), (ad 6, .inl (ci 0, 3, .inl (nF (x.2 5)))), (ad 7, .inl (ci 0, 3, .inl (nF (x.2 6)))), (ad 8, .inl (ci 0, 3, .inl (nF (x.2 7)))), (ad 9, .inl (ci 0, 3, .inl (nF (x.2 8)))), (ad 10, .inl (ci 0, 3, .inl (nF (x.2 9)))), (ad 11, .inl (ci 0, 16, .inl (nF (x.2 10)))), (ad 12, .inl (ci 0, 16, .inl (nF (x.2 11)))), (ad 13, .inl (ci 1, 3, .inl (nF (x.2 12)))), (ad 14, .inl (ci 0, 3, .inl (nF (x.2 13)))), (ad 15, .inl (ci 1, 3, .inl (nF (x.2 14)))), (ad 16, .inl (ci 0, 3, .inl (nF (x.2 15)))), (ad 17, .inl (ci 0, 3, .inl (nF (x.2 16)))), (ad 18, .inl (ci 0, 3, .inl (nF (x.2 17)))), (ad 19, .inl (ci 0, 180, .inl (nF (x.2 18)))), (ad 20, .inl (ci 0, 180, .inl (nF (x.2 19)))), (ad 21, .inl (ci 0, 3, .inl (nF (x.2 20)))), (ad 22, .inl (ci 0, 3, .inl (nF (x.2 21)))), (ad 23, .inl (ci 0, 3, .inl (nF (x.2 22)))), (ad 24, .inl (ci 0, 6, .inl (nF (x.2 23))))] := hD
  replace hown : s9.vm.findClass R_M = some m9.cls := hown
  have hT : ∀ w ∈ lw_ok, w.before args9 s9 = true := fun w h => hts w (List.mem_cons_of_mem _ h)
  rw [fM_letter] at hF
  generalize hH : H0 = H at hP ⊢
  replace hS : va_S A9 H0 H [] := by rw [← hH]; exact hS
  clear hH
  generalize ([] : List Loc) = locs at hS ⊢
  refine lv_iload_n hx hb d_M_letter_0 rfl (lv_at hl 1 rfl) ?_
  refine lv_iconst (v := nI 0) hx hb d_M_letter_1 (by decide) ?_
  refine lv_iconst (v := nI 2) hx hb d_M_letter_2 (by decide) ?_
  obtain ⟨r1, g2, hF⟩ := ob_s hF
  refine ln_goi0 (va_runS (As := [.int v1, .int (nI 0), .int (nI 2)]) (rest := []) ⟨hx, hb, hml, hown, hT⟩ (cwithin l D ci   v1 (nI 0) (nI 2) _ g2 H.size) (cw_S 3 hT wd_529 wd_8 wd_531 wd_530 (by decide +kernel) (by decide) (by decide)) (ln_pre hK hN (hP.subM [] rfl) (hD.sub [] (by decide) rfl)) rfl rfl hl.1 rfl (lv_room (Nat.le_of_ble_eq_true rfl)) d_M_letter_3 ⟨Nat.zero_le _, Nat.zero_le _⟩) hP hS hA (fun H locs hP hS => ?_)
  obtain ⟨b3, hF⟩ := ss_s hF
  refine ln_if_eq hx hb b3 34 d_M_letter_6 (by decide) (fun h4 => ?_) (fun h4 => ?_)
  · have hF := it_p hF h4
    refine lv_iconst (v := (-1)) hx hb d_M_letter_34 (by decide) ?_
    obtain rfl := Option.some.inj hF
    exact kR _ _ _ _ d_M_letter_35 rfl hP hD hS
  · have hF := it_n hF h4
    obtain ⟨b5, hF⟩ := ss_s hF
    have hl : lv_has ls 3 [(0, .ref (ad 0)), (1, .int (nI v1.toNatClampNeg)), (2, .int v2)] := by rw [nI_co b5]; exact hl
    refine lv_aload_n hx hb d_M_letter_9 rfl (lv_at hl 0 rfl) ?_
    refine va_get (D := D) (ci := 6) (v := .ref (ad 23)) (C := R_M) (T := F_M) (N := 30) hx hb hT in_M hown hK hP 0 rfl rfl 28 (by decide) (hT _ wd_461) (fun _ h9 => h9) rfl d_M_letter_10 ?_
    refine lv_iload_n hx hb d_M_letter_13 rfl (lv_at hl 1 rfl) ?_
    obtain ⟨b6, hF⟩ := ss_s hF
    refine ln_ald hx hb hK hP 23 0 rfl rfl b6 (by decide) d_M_letter_14 ?_
    obtain ⟨b7, hF⟩ := ss_s hF
    refine ln_if_eq hx hb b7 34 d_M_letter_15 (by decide) (fun h8 => ?_) (fun h8 => ?_)
    · have hF := it_p hF h8
      refine lv_iconst (v := (-1)) hx hb d_M_letter_34 (by decide) ?_
      obtain rfl := Option.some.inj hF
      exact kR _ _ _ _ d_M_letter_35 rfl hP hD hS
    · have hF := it_n hF h8
      refine lv_iload_n hx hb d_M_letter_18 rfl (lv_at hl 2 rfl) ?_
      refine lv_iconst (v := nI 0) hx hb d_M_letter_19 (by decide) ?_
      refine lv_aload_n hx hb d_M_letter_20 rfl (lv_at hl 0 rfl) ?_
      refine va_get (D := D) (ci := 6) (v := .ref (ad 21)) (C := R_M) (T := F_M) (N := 30) hx hb hT in_M hown hK hP 0 rfl rfl 26 (by decide) (hT _ wd_459) (fun _ h9 => h9) rfl d_M_letter_21 ?_
      refine lv_iload_n hx hb d_M_letter_24 rfl (lv_at hl 1 rfl) ?_
      refine ln_ald hx hb hK hP 21 0 rfl rfl b6 (by decide) d_M_letter_25 ?_
      refine lv_iconst (v := nI 1) hx hb d_M_letter_26 (by decide) ?_
      obtain ⟨b9, hF⟩ := ss_s hF
      refine ln_isub hx hb b9 d_M_letter_27 ?_
      obtain ⟨r10, g11, hF⟩ := ob_s hF
      refine ln_goi0 (va_runS (As := [.int v2, .int (nI 0), .int (nI (((x.2 20) v1.toNatClampNeg) - 1))]) (rest := []) ⟨hx, hb, hml, hown, hT⟩ (cwithin l D ci   v2 (nI 0) (nI (((x.2 20) v1.toNatClampNeg) - 1)) _ g11 H.size) (cw_S 3 hT wd_529 wd_8 wd_531 wd_530 (by decide +kernel) (by decide) (by decide)) (ln_pre hK hN (hP.subM [] rfl) (hD.sub [] (by decide) rfl)) rfl rfl hl.1 rfl (lv_room (Nat.le_of_ble_eq_true rfl)) d_M_letter_28 ⟨Nat.zero_le _, Nat.zero_le _⟩) hP hS hA (fun H locs hP hS => ?_)
      obtain ⟨b12, hF⟩ := ss_s hF
      refine ln_if_ne hx hb b12 36 d_M_letter_31 (by decide) (fun h13 => ?_) (fun h13 => ?_)
      · have hF := it_p hF h13
        obtain ⟨b14, hF⟩ := ss_s hF
        have hl : lv_has ls 3 [(0, .ref (ad 0)), (1, .int (nI v1.toNatClampNeg)), (2, .int (nI v2.toNatClampNeg))] := by rw [nI_co b14]; exact hl
        refine lv_aload_n hx hb d_M_letter_36 rfl (lv_at hl 0 rfl) ?_
        refine va_get (D := D) (ci := 6) (v := .ref (ad 20)) (C := R_M) (T := F_M) (N := 30) hx hb hT in_M hown hK hP 0 rfl rfl 25 (by decide) (hT _ wd_458) (fun _ h9 => h9) rfl d_M_letter_37 ?_
        refine lv_bipush (v := nI 60) hx hb d_M_letter_40 (by decide) ?_
        refine lv_iload_n hx hb d_M_letter_42 rfl (lv_at hl 1 rfl) ?_
        refine ln_imul hx hb d_M_letter_43 ?_
        refine lv_iload_n hx hb d_M_letter_44 rfl (lv_at hl 2 rfl) ?_
        refine ln_iadd hx hb d_M_letter_45 ?_
        obtain ⟨b15, hF⟩ := ss_s hF
        refine ln_ald hx hb hK hP 20 0 rfl rfl b15 (by decide) d_M_letter_46 ?_
        obtain rfl := Option.some.inj hF
        exact kR _ _ _ _ d_M_letter_47 rfl hP hD hS
      · have hF := it_n hF h13
        refine lv_iconst (v := (-1)) hx hb d_M_letter_34 (by decide) ?_
        obtain rfl := Option.some.inj hF
        exact kR _ _ _ _ d_M_letter_35 rfl hP hD hS
