def fX_retune (x : XS)  : Option (XS) := ob (fR_reset (x 10) (x 11) (x 12) (x 13)) (fun r1 => some (va_up (va_up (va_up (va_up x 10 r1.1) 11 r1.2.1) 12 r1.2.2.1) 13 r1.2.2.2))
abbrev rm_X_retune : Room := { frames := 2, cells := 0, slots := 0, locals := 41 }
set_option maxHeartbeats 4000000 in
set_option maxRecDepth 100000 in
theorem cX_retune (l : Launch) (D : va_G) (ci : Nat → ClassId) (ad : Nat → Nat) (x : XS)  (o : XS) (hF : fX_retune x = some o) : CtV l y_X_retune w_X_retune rm_X_retune D vwCl (tyC ci) [.ref (ad 0)] (wX ad ci x) (wX ad ci o) := by
  refine ct_v (cc := b_X_retune) (maxL := 1) (plainFor_of_name (by decide)) rfl (Nat.le_of_ble_eq_true rfl) (fun p9 e9 s9 m9 args9 be9 me9 c9 A9 Q9 ls H0 hx hb hml hts hown hK hN hl hP hD hS hA kR => ?_)
  replace hl : lv_has ls 1 [(0, .ref (ad 0))] := hl
  replace hP : va_P D vwCl [(ad 0, .inr (5, [.int (nI ((x 0).1 0)), .int (nI ((x 0).1 1)), .ref (ad 1), .ref (ad 29), .ref (ad 35), .ref (ad 37), .int (nI ((x 0).1 6)), .int (nI ((x 0).1 7))])), (ad 1, .inl (ci 2, 3, .inr (.inr (.inr (.inr (fun i => if i = 0 then some (ad 2) else if i = 1 then some (ad 11) else some (ad 20))))))), (ad 2, .inr (3, [.ref (ad 3), .ref (ad 7), .int (nI ((x 1).1 2)), .int (nI ((x 1).1 3)), .int (nI ((x 1).1 4)), .int (nI ((x 1).1 5)), .int (nI ((x 1).1 6)), .int (nI ((x 1).1 7))])), (ad 3, .inr (4, [.ref (ad 4), .ref (ad 5), .ref (ad 6), .int (nI ((x 2).1 3))])), (ad 4, .inl (ci 0, 8, .inl (nF ((x 2).2 0)))), (ad 5, .inl (ci 0, 8, .inl (nF ((x 2).2 1)))), (ad 6, .inl (ci 0, 8, .inl (nF ((x 2).2 2)))), (ad 7, .inr (4, [.ref (ad 8), .ref (ad 9), .ref (ad 10), .int (nI ((x 3).1 3))])), (ad 8, .inl (ci 0, 8, .inl (nF ((x 3).2 0)))), (ad 9, .inl (ci 0, 8, .inl (nF ((x 3).2 1)))), (ad 10, .inl (ci 0, 8, .inl (nF ((x 3).2 2)))), (ad 11, .inr (3, [.ref (ad 12), .ref (ad 16), .int (nI ((x 4).1 2)), .int (nI ((x 4).1 3)), .int (nI ((x 4).1 4)), .int (nI ((x 4).1 5)), .int (nI ((x 4).1 6)), .int (nI ((x 4).1 7))])), (ad 12, .inr (4, [.ref (ad 13), .ref (ad 14), .ref (ad 15), .int (nI ((x 5).1 3))])), (ad 13, .inl (ci 0, 8, .inl (nF ((x 5).2 0)))), (ad 14, .inl (ci 0, 8, .inl (nF ((x 5).2 1)))), (ad 15, .inl (ci 0, 8, .inl (nF ((x 5).2 2)))), (ad 16, .inr (4, [.ref (ad 17), .ref (ad 18), .ref (ad 19), .int (nI ((x 6).1 3))])), (ad 17, .inl (ci 0, 8, .inl (nF ((x 6).2 0)))), (ad 18, .inl (ci 0, 8, .inl (nF ((x 6).2 1)))), (ad 19, .inl (ci 0, 8, .inl (nF ((x 6).2 2)))), (ad 20, .inr (3, [.ref (ad 21), .ref (ad 25), .int (nI ((x 7).1 2)), .int (nI ((x 7).1 3)), .int (nI ((x 7).1 4)), .int (nI ((x 7).1 5)), .int (nI ((x 7).1 6)), .int (nI ((x 7).1 7))])), (ad 21, .inr (4, [.ref (ad 22), .ref (ad 23), .ref (ad 24), .int (nI ((x 8).1 3))])), (ad 22, .inl (ci 0, 8, .inl (nF ((x 8).2 0)))), (ad 23, .inl (ci 0, 8, .inl (nF ((x 8).2 1)))), (ad 24, .inl (ci 0, 8, .inl (nF ((x 8).2 2)))), (ad 25, .inr (4, [.ref (ad 26), .ref (ad 27), .ref (ad 28), .int (nI ((x 9).1 3))])), (ad 26, .inl (ci 0, 8, .inl (nF ((x 9).2 0)))), (ad 27, .inl (ci 0, 8, .inl (nF ((x 9).2 1)))), (ad 28, .inl (ci 0, 8, .inl (nF ((x 9).2 2)))), (ad 29, .inr (2, [.ref (ad 30), .ref (ad 31), .int (nI ((x 10).1 2)), .int (nI ((x 10).1 3))])), (ad 31, .inl (ci 0, 6, .inl (nF ((x 10).2 0)))), (ad 30, .inl (ci 3, 3, .inr (.inr (.inr (.inr (fun i => if i = 0 then some (ad 32) else if i = 1 then some (ad 33) else some (ad 34))))))), (ad 32, .inr (0, [.int (nI ((x 11).1 0)), .int (nI ((x 11).1 1)), .int (nI ((x 11).1 2)), .int (nI ((x 11).1 3)), .int (nI ((x 11).1 4)), .int (nI ((x 11).1 5)), .ref ((x 11).1 6), .int (nI ((x 11).1 7)), .int (nI ((x 11).1 8)), .ref ((x 11).1 9), .int (nI ((x 11).1 10))])), ((x 11).1 6, .inl (ci 0, 60, .inl (nF ((x 11).2 0)))), ((x 11).1 9, .inl (ci 0, 60, .inl (nF ((x 11).2 1)))), (ad 33, .inr (0, [.int (nI ((x 12).1 0)), .int (nI ((x 12).1 1)), .int (nI ((x 12).1 2)), .int (nI ((x 12).1 3)), .int (nI ((x 12).1 4)), .int (nI ((x 12).1 5)), .ref ((x 12).1 6), .int (nI ((x 12).1 7)), .int (nI ((x 12).1 8)), .ref ((x 12).1 9), .int (nI ((x 12).1 10))])), ((x 12).1 6, .inl (ci 0, 60, .inl (nF ((x 12).2 0)))), ((x 12).1 9, .inl (ci 0, 60, .inl (nF ((x 12).2 1)))), (ad 34, .inr (0, [.int (nI ((x 13).1 0)), .int (nI ((x 13).1 1)), .int (nI ((x 13).1 2)), .int (nI ((x 13).1 3)), .int (nI ((x 13).1 4)), .int (nI ((x 13).1 5)), .ref ((x 13).1 6), .int (nI ((x 13).1 7)), .int (nI ((x 13).1 8)), .ref ((x 13).1 9), .int (nI ((x 13).1 10))])), ((x 13).1 6, .inl (ci 0, 60, .inl (nF ((x 13).2 0)))), ((x 13).1 9, .inl (ci 0, 60, .inl (nF ((x 13).2 1)))), (ad 35, .inr (1, [.ref (ad 36), .int (nI ((x 14).1 1))])), (ad 36, .inl (ci 0, 16, .inl (nF ((x 14).2 0)))), (ad 37, .inr (1, [.ref (ad 38), .int (nI ((x 15).1 1))])), (ad 38, .inl (ci 0, 16, .inl (nF ((x 15).2 0))))] H0 := hP
  replace hD : va_D A9 [(ad 0, .inr (5, [.int (nI ((x 0).1 0)), .int (nI ((x 0).1 1)), .ref (ad 1), .ref (ad 29), .ref (ad 35), .ref (ad 37), .int (nI ((x 0).1 6)), .int (nI ((x 0).1 7))])), (ad 1, .inl (ci 2, 3, .inr (.inr (.inr (.inr (fun i => if i = 0 then some (ad 2) else if i = 1 then some (ad 11) else some (ad 20))))))), (ad 2, .inr (3, [.ref (ad 3), .ref (ad 7), .int (nI ((x 1).1 2)), .int (nI ((x 1).1 3)), .int (nI ((x 1).1 4)), .int (nI ((x 1).1 5)), .int (nI ((x 1).1 6)), .int (nI ((x 1).1 7))])), (ad 3, .inr (4, [.ref (ad 4), .ref (ad 5), .ref (ad 6), .int (nI ((x 2).1 3))])), (ad 4, .inl (ci 0, 8, .inl (nF ((x 2).2 0)))), (ad 5, .inl (ci 0, 8, .inl (nF ((x 2).2 1)))), (ad 6, .inl (ci 0, 8, .inl (nF ((x 2).2 2)))), (ad 7, .inr (4, [.ref (ad 8), .ref (ad 9), .ref (ad 10), .int (nI ((x 3).1 3))])), (ad 8, .inl (ci 0, 8, .inl (nF ((x 3).2 0)))), (ad 9, .inl (ci 0, 8, .inl (nF ((x 3).2 1)))), (ad 10, .inl (ci 0, 8, .inl (nF ((x 3).2 2)))), (ad 11, .inr (3, [.ref (ad 12), .ref (ad 16), .int (nI ((x 4).1 2)), .int (nI ((x 4).1 3)), .int (nI ((x 4).1 4)), .int (nI ((x 4).1 5)), .int (nI ((x 4).1 6)), .int (nI ((x 4).1 7))])), (ad 12, .inr (4, [.ref (ad 13), .ref (ad 14), .ref (ad 15), .int (nI ((x 5).1 3))])), (ad 13, .inl (ci 0, 8, .inl (nF ((x 5).2 0)))), (ad 14, .inl (ci 0, 8, .inl (nF ((x 5).2 1)))), (ad 15, .inl (ci 0, 8, .inl (nF ((x 5).2 2)))), (ad 16, .inr (4, [.ref (ad 17), .ref (ad 18), .ref (ad 19), .int (nI ((x 6).1 3))])), (ad 17, .inl (ci 0, 8, .inl (nF ((x 6).2 0)))), (ad 18, .inl (ci 0, 8, .inl (nF ((x 6).2 1)))), (ad 19, .inl (ci 0, 8, .inl (nF ((x 6).2 2)))), (ad 20, .inr (3, [.ref (ad 21), .ref (ad 25), .int (nI ((x 7).1 2)), .int (nI ((x 7).1 3)), .int (nI ((x 7).1 4)), .int (nI ((x 7).1 5)), .int (nI ((x 7).1 6)), .int (nI ((x 7).1 7))])), (ad 21, .inr (4, [.ref (ad 22), .ref (ad 23), .ref (ad 24), .int (nI ((x 8).1 3))])), (ad 22, .inl (ci 0, 8, .inl (nF ((x 8).2 0)))), (ad 23, .inl (ci 0, 8, .inl (nF ((x 8).2 1)))), (ad 24, .inl (ci 0, 8, .inl (nF ((x 8).2 2)))), (ad 25, .inr (4, [.ref (ad 26), .ref (ad 27), .ref (ad 28), .int (nI ((x 9).1 3))])), (ad 26, .inl (ci 0, 8, .inl (nF ((x 9).2 0)))), (ad 27, .inl (ci 0, 8, .inl (nF ((x 9).2 1)))), (ad 28, .inl (ci 0, 8, .inl (nF ((x 9).2 2)))), (ad 29, .inr (2, [.ref (ad 30), .ref (ad 31), .int (nI ((x 10).1 2)), .int (nI ((x 10).1 3))])), (ad 31, .inl (ci 0, 6, .inl (nF ((x 10).2 0)))), (ad 30, .inl (ci 3, 3, .inr (.inr (.inr (.inr (fun i => if i = 0 then some (ad 32) else if i = 1 then some (ad 33) else some (ad 34))))))), (ad 32, .inr (0, [.int (nI ((x 11).1 0)), .int (nI ((x 11).1 1)), .int (nI ((x 11).1 2)), .int (nI ((x 11).1 3)), .int (nI ((x 11).1 4)), .int (nI ((x 11).1 5)), .ref ((x 11).1 6), .int (nI ((x 11).1 7)), .int (nI ((x 11).1 8)), .ref ((x 11).1 9), .int (nI ((x 11).1 10))])), ((x 11).1 6, .inl (ci 0, 60, .inl (nF ((x 11).2 0)))), ((x 11).1 9, .inl (ci 0, 60, .inl (nF ((x 11).2 1)))), (ad 33, .inr (0, [.int (nI ((x 12).1 0)), .int (nI ((x 12).1 1)), .int (nI ((x 12).1 2)), .int (nI ((x 12).1 3)), .int (nI ((x 12).1 4)), .int (nI ((x 12).1 5)), .ref ((x 12).1 6), .int (nI ((x 12).1 7)), .int (nI ((x 12).1 8)), .ref ((x 12).1 9), .int (nI ((x 12).1 10))])), ((x 12).1 6, .inl (ci 0, 60, .inl (nF ((x 12).2 0)))), ((x 12).1 9, .inl (ci 0, 60, .inl (nF ((x 12).2 1)))), (ad 34, .inr (0, [.int (nI ((x 13).1 0)), .int (nI ((x 13).1 1)), .int (nI ((x 13).1 2)), .int (nI ((x 13).1 3)), .int (nI ((x 13).1 4)), .int (nI ((x 13).1 5)), .ref ((x 13).1 6), .int (nI ((x 13).1 7)), .int (nI ((x 13).1 8)), .ref ((x 13).1 9), .int (nI ((x 13).1 10))])), ((x 13).1 6, .inl (ci 0, 60, .inl (nF ((x 13).2 0)))), ((x 13).1 9, .inl (ci 0, 60, .inl (nF ((x 13).2 1)))), (ad 35, .inr (1, [.ref (ad 36), .int (nI ((x 14).1 1))])), (ad 36, .inl (ci 0, 16, .inl (nF ((x 14).2 0)))), (ad 37, .inr (1, [.ref (ad 38), .int (nI ((x 15).1 1))])), (ad 38, .inl (ci 0, 16, .inl (nF ((x 15).2 0))))] := hD
  replace hown : s9.vm.findClass R_X = some m9.cls := hown
  have hT : ∀ w ∈ lw_ok, w.before args9 s9 = true := fun w h => hts w (List.mem_cons_of_mem _ h)
  rw [fX_retune] at hF
  generalize hH : H0 = H at hP ⊢
  replace hS : va_S A9 H0 H [] := by rw [← hH]; exact hS
  clear hH
  generalize ([] : List Loc) = locs at hS ⊢
  refine lv_aload_n hx hb d_X_retune_0 rfl (lv_at hl 0 rfl) ?_
  refine va_get (D := D) (ci := 5) (v := .ref (ad 29)) (C := R_X) (T := F_X) (N := 8) hx hb hT in_X hown hK hP 0 rfl rfl 3 (by decide) (hT _ wd_167) (fun _ h9 => h9) rfl d_X_retune_1 ?_
  obtain ⟨r1, g2, hF⟩ := ob_s hF
  refine ln_gov (va_runV (As := []) (rest := []) ⟨hx, hb, hml, hown, hT⟩ (cR_reset l D ci (ad 29) (ad 30) (ad 31) (ad 32) (ad 33) (ad 34) (x 10) (x 11) (x 12) (x 13)  _ g2 H.size) (cw_V 0 hT wd_404 wd_5 wd_407 wd_405 wd_406 (by decide +kernel) (by decide) (by decide)) (ln_preV 29 hK hN hP rfl rfl (hP.subM [29, 30, 31, 32, 33, 34, 35, 36, 37, 38, 39, 40] rfl) (hD.sub [29, 30, 31, 32, 33, 34, 35, 36, 37, 38, 39, 40] (by decide) rfl)) rfl rfl hl.1 rfl (lv_room (Nat.le_of_ble_eq_true rfl)) d_X_retune_4 ⟨Nat.zero_le _, Nat.zero_le _⟩) hP hD hS hA [29, 30, 31, 32, 33, 34, 35, 36, 37, 38, 39, 40] [0, 1, 2, 3, 4, 5, 6, 7, 8, 9, 10, 11, 12, 13, 14, 15, 16, 17, 18, 19, 20, 21, 22, 23, 24, 25, 26, 27, 28, 41, 42, 43, 44] [0, 1, 2, 3, 4, 5, 6, 7, 8, 9, 10, 11, 12, 13, 14, 15, 16, 17, 18, 19, 20, 21, 22, 23, 24, 25, 26, 27, 28, 33, 34, 35, 36, 37, 38, 39, 40, 41, 42, 43, 44, 29, 30, 31, 32] rfl rfl rfl (by decide +kernel) (by decide +kernel) (wn := [(ad 0, .inr (5, [.int (nI ((x 0).1 0)), .int (nI ((x 0).1 1)), .ref (ad 1), .ref (ad 29), .ref (ad 35), .ref (ad 37), .int (nI ((x 0).1 6)), .int (nI ((x 0).1 7))])), (ad 1, .inl (ci 2, 3, .inr (.inr (.inr (.inr (fun i => if i = 0 then some (ad 2) else if i = 1 then some (ad 11) else some (ad 20))))))), (ad 2, .inr (3, [.ref (ad 3), .ref (ad 7), .int (nI ((x 1).1 2)), .int (nI ((x 1).1 3)), .int (nI ((x 1).1 4)), .int (nI ((x 1).1 5)), .int (nI ((x 1).1 6)), .int (nI ((x 1).1 7))])), (ad 3, .inr (4, [.ref (ad 4), .ref (ad 5), .ref (ad 6), .int (nI ((x 2).1 3))])), (ad 4, .inl (ci 0, 8, .inl (nF ((x 2).2 0)))), (ad 5, .inl (ci 0, 8, .inl (nF ((x 2).2 1)))), (ad 6, .inl (ci 0, 8, .inl (nF ((x 2).2 2)))), (ad 7, .inr (4, [.ref (ad 8), .ref (ad 9), .ref (ad 10), .int (nI ((x 3).1 3))])), (ad 8, .inl (ci 0, 8, .inl (nF ((x 3).2 0)))), (ad 9, .inl (ci 0, 8, .inl (nF ((x 3).2 1)))), (ad 10, .inl (ci 0, 8, .inl (nF ((x 3).2 2)))), (ad 11, .inr (3, [.ref (ad 12), .ref (ad 16), .int (nI ((x 4).1 2)), .int (nI ((x 4).1 3)), .int (nI ((x 4).1 4)), .int (nI ((x 4).1 5)), .int (nI ((x 4).1 6)), .int (nI ((x 4).1 7))])), (ad 12, .inr (4, [.ref (ad 13), .ref (ad 14), .ref (ad 15), .int (nI ((x 5).1 3))])), (ad 13, .inl (ci 0, 8, .inl (nF ((x 5).2 0)))), (ad 14, .inl (ci 0, 8, .inl (nF ((x 5).2 1)))), (ad 15, .inl (ci 0, 8, .inl (nF ((x 5).2 2)))), (ad 16, .inr (4, [.ref (ad 17), .ref (ad 18), .ref (ad 19), .int (nI ((x 6).1 3))])), (ad 17, .inl (ci 0, 8, .inl (nF ((x 6).2 0)))), (ad 18, .inl (ci 0, 8, .inl (nF ((x 6).2 1)))), (ad 19, .inl (ci 0, 8, .inl (nF ((x 6).2 2)))), (ad 20, .inr (3, [.ref (ad 21), .ref (ad 25), .int (nI ((x 7).1 2)), .int (nI ((x 7).1 3)), .int (nI ((x 7).1 4)), .int (nI ((x 7).1 5)), .int (nI ((x 7).1 6)), .int (nI ((x 7).1 7))])), (ad 21, .inr (4, [.ref (ad 22), .ref (ad 23), .ref (ad 24), .int (nI ((x 8).1 3))])), (ad 22, .inl (ci 0, 8, .inl (nF ((x 8).2 0)))), (ad 23, .inl (ci 0, 8, .inl (nF ((x 8).2 1)))), (ad 24, .inl (ci 0, 8, .inl (nF ((x 8).2 2)))), (ad 25, .inr (4, [.ref (ad 26), .ref (ad 27), .ref (ad 28), .int (nI ((x 9).1 3))])), (ad 26, .inl (ci 0, 8, .inl (nF ((x 9).2 0)))), (ad 27, .inl (ci 0, 8, .inl (nF ((x 9).2 1)))), (ad 28, .inl (ci 0, 8, .inl (nF ((x 9).2 2)))), (ad 29, .inr (2, [.ref (ad 30), .ref (ad 31), .int (nI (r1.1.1 2)), .int (nI (r1.1.1 3))])), (ad 31, .inl (ci 0, 6, .inl (nF (r1.1.2 0)))), (ad 30, .inl (ci 3, 3, .inr (.inr (.inr (.inr (fun i => if i = 0 then some (ad 32) else if i = 1 then some (ad 33) else some (ad 34))))))), (ad 32, .inr (0, [.int (nI (r1.2.1.1 0)), .int (nI (r1.2.1.1 1)), .int (nI (r1.2.1.1 2)), .int (nI (r1.2.1.1 3)), .int (nI (r1.2.1.1 4)), .int (nI (r1.2.1.1 5)), .ref (r1.2.1.1 6), .int (nI (r1.2.1.1 7)), .int (nI (r1.2.1.1 8)), .ref (r1.2.1.1 9), .int (nI (r1.2.1.1 10))])), (r1.2.1.1 6, .inl (ci 0, 60, .inl (nF (r1.2.1.2 0)))), (r1.2.1.1 9, .inl (ci 0, 60, .inl (nF (r1.2.1.2 1)))), (ad 33, .inr (0, [.int (nI (r1.2.2.1.1 0)), .int (nI (r1.2.2.1.1 1)), .int (nI (r1.2.2.1.1 2)), .int (nI (r1.2.2.1.1 3)), .int (nI (r1.2.2.1.1 4)), .int (nI (r1.2.2.1.1 5)), .ref (r1.2.2.1.1 6), .int (nI (r1.2.2.1.1 7)), .int (nI (r1.2.2.1.1 8)), .ref (r1.2.2.1.1 9), .int (nI (r1.2.2.1.1 10))])), (r1.2.2.1.1 6, .inl (ci 0, 60, .inl (nF (r1.2.2.1.2 0)))), (r1.2.2.1.1 9, .inl (ci 0, 60, .inl (nF (r1.2.2.1.2 1)))), (ad 34, .inr (0, [.int (nI (r1.2.2.2.1 0)), .int (nI (r1.2.2.2.1 1)), .int (nI (r1.2.2.2.1 2)), .int (nI (r1.2.2.2.1 3)), .int (nI (r1.2.2.2.1 4)), .int (nI (r1.2.2.2.1 5)), .ref (r1.2.2.2.1 6), .int (nI (r1.2.2.2.1 7)), .int (nI (r1.2.2.2.1 8)), .ref (r1.2.2.2.1 9), .int (nI (r1.2.2.2.1 10))])), (r1.2.2.2.1 6, .inl (ci 0, 60, .inl (nF (r1.2.2.2.2 0)))), (r1.2.2.2.1 9, .inl (ci 0, 60, .inl (nF (r1.2.2.2.2 1)))), (ad 35, .inr (1, [.ref (ad 36), .int (nI ((x 14).1 1))])), (ad 36, .inl (ci 0, 16, .inl (nF ((x 14).2 0)))), (ad 37, .inr (1, [.ref (ad 38), .int (nI ((x 15).1 1))])), (ad 38, .inl (ci 0, 16, .inl (nF ((x 15).2 0))))]) rfl (by decide +kernel) (fun H locs hP hD hS => ?_)
  obtain rfl := Option.some.inj hF
  exact kR _ _ _ _ d_X_retune_7 hP hD hS
def fX_count (x : XS) (v1 : Int32) : Option (Int32) := (if v1 < 0 then some (-1) else (if (nI 6) ≤ v1 then some (-1) else ss (¬ v1 < 0) (ss (v1.toNatClampNeg < 6) (some (nI (((x 10).2 0) v1.toNatClampNeg))))))
abbrev rm_X_count : Room := { frames := 0, cells := 0, slots := 0, locals := 0 }
set_option maxHeartbeats 4000000 in
set_option maxRecDepth 100000 in
theorem cX_count (l : Launch) (D : va_G) (ci : Nat → ClassId) (ad : Nat → Nat) (x : XS) (v1 : Int32) (o : Int32) (hF : fX_count x v1 = some o) : CtI l y_X_count w_X_count rm_X_count D vwCl (tyC ci) [.ref (ad 0), .int v1] (wX ad ci x) o (wX ad ci x) := by
  refine ct_i (cc := b_X_count) (maxL := 2) (plainFor_of_name (by decide)) rfl (Nat.le_of_ble_eq_true rfl) (fun p9 e9 s9 m9 args9 be9 me9 c9 A9 Q9 ls H0 hx hb hml hts hown hK hN hl hP hD hS hA kR => ?_)
  replace hl : lv_has ls 2 [(0, .ref (ad 0)), (1, .int v1)] := hl
  replace hP : va_P D vwCl [(ad 0, .inr (5, [.int (nI ((x 0).1 0)), .int (nI ((x 0).1 1)), .ref (ad 1), .ref (ad 29), .ref (ad 35), .ref (ad 37), .int (nI ((x 0).1 6)), .int (nI ((x 0).1 7))])), (ad 1, .inl (ci 2, 3, .inr (.inr (.inr (.inr (fun i => if i = 0 then some (ad 2) else if i = 1 then some (ad 11) else some (ad 20))))))), (ad 2, .inr (3, [.ref (ad 3), .ref (ad 7), .int (nI ((x 1).1 2)), .int (nI ((x 1).1 3)), .int (nI ((x 1).1 4)), .int (nI ((x 1).1 5)), .int (nI ((x 1).1 6)), .int (nI ((x 1).1 7))])), (ad 3, .inr (4, [.ref (ad 4), .ref (ad 5), .ref (ad 6), .int (nI ((x 2).1 3))])), (ad 4, .inl (ci 0, 8, .inl (nF ((x 2).2 0)))), (ad 5, .inl (ci 0, 8, .inl (nF ((x 2).2 1)))), (ad 6, .inl (ci 0, 8, .inl (nF ((x 2).2 2)))), (ad 7, .inr (4, [.ref (ad 8), .ref (ad 9), .ref (ad 10), .int (nI ((x 3).1 3))])), (ad 8, .inl (ci 0, 8, .inl (nF ((x 3).2 0)))), (ad 9, .inl (ci 0, 8, .inl (nF ((x 3).2 1)))), (ad 10, .inl (ci 0, 8, .inl (nF ((x 3).2 2)))), (ad 11, .inr (3, [.ref (ad 12), .ref (ad 16), .int (nI ((x 4).1 2)), .int (nI ((x 4).1 3)), .int (nI ((x 4).1 4)), .int (nI ((x 4).1 5)), .int (nI ((x 4).1 6)), .int (nI ((x 4).1 7))])), (ad 12, .inr (4, [.ref (ad 13), .ref (ad 14), .ref (ad 15), .int (nI ((x 5).1 3))])), (ad 13, .inl (ci 0, 8, .inl (nF ((x 5).2 0)))), (ad 14, .inl (ci 0, 8, .inl (nF ((x 5).2 1)))), (ad 15, .inl (ci 0, 8, .inl (nF ((x 5).2 2)))), (ad 16, .inr (4, [.ref (ad 17), .ref (ad 18), .ref (ad 19), .int (nI ((x 6).1 3))])), (ad 17, .inl (ci 0, 8, .inl (nF ((x 6).2 0)))), (ad 18, .inl (ci 0, 8, .inl (nF ((x 6).2 1)))), (ad 19, .inl (ci 0, 8, .inl (nF ((x 6).2 2)))), (ad 20, .inr (3, [.ref (ad 21), .ref (ad 25), .int (nI ((x 7).1 2)), .int (nI ((x 7).1 3)), .int (nI ((x 7).1 4)), .int (nI ((x 7).1 5)), .int (nI ((x 7).1 6)), .int (nI ((x 7).1 7))])), (ad 21, .inr (4, [.ref (ad 22), .ref (ad 23), .ref (ad 24), .int (nI ((x 8).1 3))])), (ad 22, .inl (ci 0, 8, .inl (nF ((x 8).2 0)))), (ad 23, .inl (ci 0, 8, .inl (nF ((x 8).2 1)))), (ad 24, .inl (ci 0, 8, .inl (nF ((x 8).2 2)))), (ad 25, .inr (4, [.ref (ad 26), .ref (ad 27), .ref (ad 28), .int (nI ((x 9).1 3))])), (ad 26, .inl (ci 0, 8, .inl (nF ((x 9).2 0)))), (ad 27, .inl (ci 0, 8, .inl (nF ((x 9).2 1)))), (ad 28, .inl (ci 0, 8, .inl (nF ((x 9).2 2)))), (ad 29, .inr (2, [.ref (ad 30), .ref (ad 31), .int (nI ((x 10).1 2)), .int (nI ((x 10).1 3))])), (ad 31, .inl (ci 0, 6, .inl (nF ((x 10).2 0)))), (ad 30, .inl (ci 3, 3, .inr (.inr (.inr (.inr (fun i => if i = 0 then some (ad 32) else if i = 1 then some (ad 33) else some (ad 34))))))), (ad 32, .inr (0, [.int (nI ((x 11).1 0)), .int (nI ((x 11).1 1)), .int (nI ((x 11).1 2)), .int (nI ((x 11).1 3)), .int (nI ((x 11).1 4)), .int (nI ((x 11).1 5)), .ref ((x 11).1 6), .int (nI ((x 11).1 7)), .int (nI ((x 11).1 8)), .ref ((x 11).1 9), .int (nI ((x 11).1 10))])), ((x 11).1 6, .inl (ci 0, 60, .inl (nF ((x 11).2 0)))), ((x 11).1 9, .inl (ci 0, 60, .inl (nF ((x 11).2 1)))), (ad 33, .inr (0, [.int (nI ((x 12).1 0)), .int (nI ((x 12).1 1)), .int (nI ((x 12).1 2)), .int (nI ((x 12).1 3)), .int (nI ((x 12).1 4)), .int (nI ((x 12).1 5)), .ref ((x 12).1 6), .int (nI ((x 12).1 7)), .int (nI ((x 12).1 8)), .ref ((x 12).1 9), .int (nI ((x 12).1 10))])), ((x 12).1 6, .inl (ci 0, 60, .inl (nF ((x 12).2 0)))), ((x 12).1 9, .inl (ci 0, 60, .inl (nF ((x 12).2 1)))), (ad 34, .inr (0, [.int (nI ((x 13).1 0)), .int (nI ((x 13).1 1)), .int (nI ((x 13).1 2)), .int (nI ((x 13).1 3)), .int (nI ((x 13).1 4)), .int (nI ((x 13).1 5)), .ref ((x 13).1 6), .int (nI ((x 13).1 7)), .int (nI ((x 13).1 8)), .ref ((x 13).1 9), .int (nI ((x 13).1 10))])), ((x 13).1 6, .inl (ci 0, 60, .inl (nF ((x 13).2 0)))), ((x 13).1 9, .inl (ci 0, 60, .inl (nF ((x 13).2 1)))), (ad 35, .inr (1, [.ref (ad 36), .int (nI ((x 14).1 1))])), (ad 36, .inl (ci 0, 16, .inl (nF ((x 14).2 0)))), (ad 37, .inr (1, [.ref (ad 38), .int (nI ((x 15).1 1))])), (ad 38, .inl (ci 0, 16, .inl (nF ((x 15).2 0))))] H0 := hP
  replace hD : va_D A9 [(ad 0, .inr (5, [.int (nI ((x 0).1 0)), .int (nI ((x 0).1 1)), .ref (ad 1), .ref (ad 29), .ref (ad 35), .ref (ad 37), .int (nI ((x 0).1 6)), .int (nI ((x 0).1 7))])), (ad 1, .inl (ci 2, 3, .inr (.inr (.inr (.inr (fun i => if i = 0 then some (ad 2) else if i = 1 then some (ad 11) else some (ad 20))))))), (ad 2, .inr (3, [.ref (ad 3), .ref (ad 7), .int (nI ((x 1).1 2)), .int (nI ((x 1).1 3)), .int (nI ((x 1).1 4)), .int (nI ((x 1).1 5)), .int (nI ((x 1).1 6)), .int (nI ((x 1).1 7))])), (ad 3, .inr (4, [.ref (ad 4), .ref (ad 5), .ref (ad 6), .int (nI ((x 2).1 3))])), (ad 4, .inl (ci 0, 8, .inl (nF ((x 2).2 0)))), (ad 5, .inl (ci 0, 8, .inl (nF ((x 2).2 1)))), (ad 6, .inl (ci 0, 8, .inl (nF ((x 2).2 2)))), (ad 7, .inr (4, [.ref (ad 8), .ref (ad 9), .ref (ad 10), .int (nI ((x 3).1 3))])), (ad 8, .inl (ci 0, 8, .inl (nF ((x 3).2 0)))), (ad 9, .inl (ci 0, 8, .inl (nF ((x 3).2 1)))), (ad 10, .inl (ci 0, 8, .inl (nF ((x 3).2 2)))), (ad 11, .inr (3, [.ref (ad 12), .ref (ad 16), .int (nI ((x 4).1 2)), .int (nI ((x 4).1 3)), .int (nI ((x 4).1 4)), .int (nI ((x 4).1 5)), .int (nI ((x 4).1 6)), .int (nI ((x 4).1 7))])), (ad 12, .inr (4, [.ref (ad 13), .ref (ad 14), .ref (ad 15), .int (nI ((x 5).1 3))])), (ad 13, .inl (ci 0, 8, .inl (nF ((x 5).2 0)))), (ad 14, .inl (ci 0, 8, .inl (nF ((x 5).2 1)))), (ad 15, .inl (ci 0, 8, .inl (nF ((x 5).2 2)))), (ad 16, .inr (4, [.ref (ad 17), .ref (ad 18), .ref (ad 19), .int (nI ((x 6).1 3))])), (ad 17, .inl (ci 0, 8, .inl (nF ((x 6).2 0)))), (ad 18, .inl (ci 0, 8, .inl (nF ((x 6).2 1)))), (ad 19, .inl (ci 0, 8, .inl (nF ((x 6).2 2)))), (ad 20, .inr (3, [.ref (ad 21), .ref (ad 25), .int (nI ((x 7).1 2)), .int (nI ((x 7).1 3)), .int (nI ((x 7).1 4)), .int (nI ((x 7).1 5)), .int (nI ((x 7).1 6)), .int (nI ((x 7).1 7))])), (ad 21, .inr (4, [.ref (ad 22), .ref (ad 23), .ref (ad 24), .int (nI ((x 8).1 3))])), (ad 22, .inl (ci 0, 8, .inl (nF ((x 8).2 0)))), (ad 23, .inl (ci 0, 8, .inl (nF ((x 8).2 1)))), (ad 24, .inl (ci 0, 8, .inl (nF ((x 8).2 2)))), (ad 25, .inr (4, [.ref (ad 26), .ref (ad 27), .ref (ad 28), .int (nI ((x 9).1 3))])), (ad 26, .inl (ci 0, 8, .inl (nF ((x 9).2 0)))), (ad 27, .inl (ci 0, 8, .inl (nF ((x 9).2 1)))), (ad 28, .inl (ci 0, 8, .inl (nF ((x 9).2 2)))), (ad 29, .inr (2, [.ref (ad 30), .ref (ad 31), .int (nI ((x 10).1 2)), .int (nI ((x 10).1 3))])), (ad 31, .inl (ci 0, 6, .inl (nF ((x 10).2 0)))), (ad 30, .inl (ci 3, 3, .inr (.inr (.inr (.inr (fun i => if i = 0 then some (ad 32) else if i = 1 then some (ad 33) else some (ad 34))))))), (ad 32, .inr (0, [.int (nI ((x 11).1 0)), .int (nI ((x 11).1 1)), .int (nI ((x 11).1 2)), .int (nI ((x 11).1 3)), .int (nI ((x 11).1 4)), .int (nI ((x 11).1 5)), .ref ((x 11).1 6), .int (nI ((x 11).1 7)), .int (nI ((x 11).1 8)), .ref ((x 11).1 9), .int (nI ((x 11).1 10))])), ((x 11).1 6, .inl (ci 0, 60, .inl (nF ((x 11).2 0)))), ((x 11).1 9, .inl (ci 0, 60, .inl (nF ((x 11).2 1)))), (ad 33, .inr (0, [.int (nI ((x 12).1 0)), .int (nI ((x 12).1 1)), .int (nI ((x 12).1 2)), .int (nI ((x 12).1 3)), .int (nI ((x 12).1 4)), .int (nI ((x 12).1 5)), .ref ((x 12).1 6), .int (nI ((x 12).1 7)), .int (nI ((x 12).1 8)), .ref ((x 12).1 9), .int (nI ((x 12).1 10))])), ((x 12).1 6, .inl (ci 0, 60, .inl (nF ((x 12).2 0)))), ((x 12).1 9, .inl (ci 0, 60, .inl (nF ((x 12).2 1)))), (ad 34, .inr (0, [.int (nI ((x 13).1 0)), .int (nI ((x 13).1 1)), .int (nI ((x 13).1 2)), .int (nI ((x 13).1 3)), .int (nI ((x 13).1 4)), .int (nI ((x 13).1 5)), .ref ((x 13).1 6), .int (nI ((x 13).1 7)), .int (nI ((x 13).1 8)), .ref ((x 13).1 9), .int (nI ((x 13).1 10))])), ((x 13).1 6, .inl (ci 0, 60, .inl (nF ((x 13).2 0)))), ((x 13).1 9, .inl (ci 0, 60, .inl (nF ((x 13).2 1)))), (ad 35, .inr (1, [.ref (ad 36), .int (nI ((x 14).1 1))])), (ad 36, .inl (ci 0, 16, .inl (nF ((x 14).2 0)))), (ad 37, .inr (1, [.ref (ad 38), .int (nI ((x 15).1 1))])), (ad 38, .inl (ci 0, 16, .inl (nF ((x 15).2 0))))] := hD
  replace hown : s9.vm.findClass R_X = some m9.cls := hown
  have hT : ∀ w ∈ lw_ok, w.before args9 s9 = true := fun w h => hts w (List.mem_cons_of_mem _ h)
  rw [fX_count] at hF
  generalize hH : H0 = H at hP ⊢
  replace hS : va_S A9 H0 H [] := by rw [← hH]; exact hS
  clear hH
  generalize ([] : List Loc) = locs at hS ⊢
  refine lv_iload_n hx hb d_X_count_0 rfl (lv_at hl 1 rfl) ?_
  refine lv_if_lt (tgt := 22) hx hb d_X_count_1 (by decide) (fun h1 => ?_) (fun h1 => ?_)
  · have hF := it_p hF h1
    refine lv_iconst (v := (-1)) hx hb d_X_count_22 (by decide) ?_
    obtain rfl := Option.some.inj hF
    exact kR _ _ _ _ d_X_count_23 rfl hP hD hS
  · have hF := it_n hF h1
    refine lv_iload_n hx hb d_X_count_4 rfl (lv_at hl 1 rfl) ?_
    refine lv_bipush (v := nI 6) hx hb d_X_count_5 (by decide) ?_
    refine lv_icmp_ge (tgt := 22) hx hb d_X_count_7 (by decide) (fun h2 => ?_) (fun h2 => ?_)
    · have hF := it_p hF h2
      refine lv_iconst (v := (-1)) hx hb d_X_count_22 (by decide) ?_
      obtain rfl := Option.some.inj hF
      exact kR _ _ _ _ d_X_count_23 rfl hP hD hS
    · have hF := it_n hF h2
      obtain ⟨b3, hF⟩ := ss_s hF
      have hl : lv_has ls 2 [(0, .ref (ad 0)), (1, .int (nI v1.toNatClampNeg))] := by rw [nI_co b3]; exact hl
      refine lv_aload_n hx hb d_X_count_10 rfl (lv_at hl 0 rfl) ?_
      refine va_get (D := D) (ci := 5) (v := .ref (ad 29)) (C := R_X) (T := F_X) (N := 8) hx hb hT in_X hown hK hP 0 rfl rfl 3 (by decide) (hT _ wd_167) (fun _ h9 => h9) rfl d_X_count_11 ?_
      refine va_getN (D := D) (ci := 2) (v := .ref (ad 31)) (C := R_R) (T := F_R) (N := 4) hx hb hT in_R hown hK hP 29 rfl rfl 1 (by decide) (va_Nw.use rfl (hN.1 _ nf_137)) (fun _ h9 => h9) rfl d_X_count_14 ?_
      refine lv_iload_n hx hb d_X_count_17 rfl (lv_at hl 1 rfl) ?_
      obtain ⟨b4, hF⟩ := ss_s hF
      refine ln_ald hx hb hK hP 30 0 rfl rfl b4 (by decide) d_X_count_18 ?_
      refine lv_goto (tgt := 23) hx hb d_X_count_19 (by decide) ?_
      obtain rfl := Option.some.inj hF
      exact kR _ _ _ _ d_X_count_23 rfl hP hD hS
def fX_latest (x : XS) (v1 : Int32) (v2 : Int32) : Option (Int32) := ob (fisStreamI v1) (fun r1 => ss (r1 < 2147483648) ((if r1 = 0 then some (-1) else (if v1 = nI 0 then ss (((x 11).1 10) < 2147483648) ((if ¬ ((x 11).1 10) = 0 then (if v2 = nI 0 then some (nI ((x 11).1 7)) else (if v2 = nI 1 then some (nI ((x 11).1 8)) else (if v2 = nI 2 then some (nI ((x 11).1 10)) else some (-1)))) else some (-1))) else (if v1 = nI 1 then ss (((x 12).1 10) < 2147483648) ((if ¬ ((x 12).1 10) = 0 then (if v2 = nI 0 then some (nI ((x 12).1 7)) else (if v2 = nI 1 then some (nI ((x 12).1 8)) else (if v2 = nI 2 then some (nI ((x 12).1 10)) else some (-1)))) else some (-1))) else (if v1 = nI 2 then ss (((x 13).1 10) < 2147483648) ((if ¬ ((x 13).1 10) = 0 then (if v2 = nI 0 then some (nI ((x 13).1 7)) else (if v2 = nI 1 then some (nI ((x 13).1 8)) else (if v2 = nI 2 then some (nI ((x 13).1 10)) else some (-1)))) else some (-1))) else none))))))
abbrev rm_X_latest : Room := { frames := 1, cells := 0, slots := 0, locals := 20 }
set_option maxHeartbeats 4000000 in
set_option maxRecDepth 100000 in
theorem cX_latest (l : Launch) (D : va_G) (ci : Nat → ClassId) (ad : Nat → Nat) (x : XS) (v1 : Int32) (v2 : Int32) (o : Int32) (hF : fX_latest x v1 v2 = some o) : CtI l y_X_latest w_X_latest rm_X_latest D vwCl (tyC ci) [.ref (ad 0), .int v1, .int v2] (wX ad ci x) o (wX ad ci x) := by
  refine ct_i (cc := b_X_latest) (maxL := 4) (plainFor_of_name (by decide)) rfl (Nat.le_of_ble_eq_true rfl) (fun p9 e9 s9 m9 args9 be9 me9 c9 A9 Q9 ls H0 hx hb hml hts hown hK hN hl hP hD hS hA kR => ?_)
  replace hl : lv_has ls 4 [(0, .ref (ad 0)), (1, .int v1), (2, .int v2)] := hl
  replace hP : va_P D vwCl [(ad 0, .inr (5, [.int (nI ((x 0).1 0)), .int (nI ((x 0).1 1)), .ref (ad 1), .ref (ad 29), .ref (ad 35), .ref (ad 37), .int (nI ((x 0).1 6)), .int (nI ((x 0).1 7))])), (ad 1, .inl (ci 2, 3, .inr (.inr (.inr (.inr (fun i => if i = 0 then some (ad 2) else if i = 1 then some (ad 11) else some (ad 20))))))), (ad 2, .inr (3, [.ref (ad 3), .ref (ad 7), .int (nI ((x 1).1 2)), .int (nI ((x 1).1 3)), .int (nI ((x 1).1 4)), .int (nI ((x 1).1 5)), .int (nI ((x 1).1 6)), .int (nI ((x 1).1 7))])), (ad 3, .inr (4, [.ref (ad 4), .ref (ad 5), .ref (ad 6), .int (nI ((x 2).1 3))])), (ad 4, .inl (ci 0, 8, .inl (nF ((x 2).2 0)))), (ad 5, .inl (ci 0, 8, .inl (nF ((x 2).2 1)))), (ad 6, .inl (ci 0, 8, .inl (nF ((x 2).2 2)))), (ad 7, .inr (4, [.ref (ad 8), .ref (ad 9), .ref (ad 10), .int (nI ((x 3).1 3))])), (ad 8, .inl (ci 0, 8, .inl (nF ((x 3).2 0)))), (ad 9, .inl (ci 0, 8, .inl (nF ((x 3).2 1)))), (ad 10, .inl (ci 0, 8, .inl (nF ((x 3).2 2)))), (ad 11, .inr (3, [.ref (ad 12), .ref (ad 16), .int (nI ((x 4).1 2)), .int (nI ((x 4).1 3)), .int (nI ((x 4).1 4)), .int (nI ((x 4).1 5)), .int (nI ((x 4).1 6)), .int (nI ((x 4).1 7))])), (ad 12, .inr (4, [.ref (ad 13), .ref (ad 14), .ref (ad 15), .int (nI ((x 5).1 3))])), (ad 13, .inl (ci 0, 8, .inl (nF ((x 5).2 0)))), (ad 14, .inl (ci 0, 8, .inl (nF ((x 5).2 1)))), (ad 15, .inl (ci 0, 8, .inl (nF ((x 5).2 2)))), (ad 16, .inr (4, [.ref (ad 17), .ref (ad 18), .ref (ad 19), .int (nI ((x 6).1 3))])), (ad 17, .inl (ci 0, 8, .inl (nF ((x 6).2 0)))), (ad 18, .inl (ci 0, 8, .inl (nF ((x 6).2 1)))), (ad 19, .inl (ci 0, 8, .inl (nF ((x 6).2 2)))), (ad 20, .inr (3, [.ref (ad 21), .ref (ad 25), .int (nI ((x 7).1 2)), .int (nI ((x 7).1 3)), .int (nI ((x 7).1 4)), .int (nI ((x 7).1 5)), .int (nI ((x 7).1 6)), .int (nI ((x 7).1 7))])), (ad 21, .inr (4, [.ref (ad 22), .ref (ad 23), .ref (ad 24), .int (nI ((x 8).1 3))])), (ad 22, .inl (ci 0, 8, .inl (nF ((x 8).2 0)))), (ad 23, .inl (ci 0, 8, .inl (nF ((x 8).2 1)))), (ad 24, .inl (ci 0, 8, .inl (nF ((x 8).2 2)))), (ad 25, .inr (4, [.ref (ad 26), .ref (ad 27), .ref (ad 28), .int (nI ((x 9).1 3))])), (ad 26, .inl (ci 0, 8, .inl (nF ((x 9).2 0)))), (ad 27, .inl (ci 0, 8, .inl (nF ((x 9).2 1)))), (ad 28, .inl (ci 0, 8, .inl (nF ((x 9).2 2)))), (ad 29, .inr (2, [.ref (ad 30), .ref (ad 31), .int (nI ((x 10).1 2)), .int (nI ((x 10).1 3))])), (ad 31, .inl (ci 0, 6, .inl (nF ((x 10).2 0)))), (ad 30, .inl (ci 3, 3, .inr (.inr (.inr (.inr (fun i => if i = 0 then some (ad 32) else if i = 1 then some (ad 33) else some (ad 34))))))), (ad 32, .inr (0, [.int (nI ((x 11).1 0)), .int (nI ((x 11).1 1)), .int (nI ((x 11).1 2)), .int (nI ((x 11).1 3)), .int (nI ((x 11).1 4)), .int (nI ((x 11).1 5)), .ref ((x 11).1 6), .int (nI ((x 11).1 7)), .int (nI ((x 11).1 8)), .ref ((x 11).1 9), .int (nI ((x 11).1 10))])), ((x 11).1 6, .inl (ci 0, 60, .inl (nF ((x 11).2 0)))), ((x 11).1 9, .inl (ci 0, 60, .inl (nF ((x 11).2 1)))), (ad 33, .inr (0, [.int (nI ((x 12).1 0)), .int (nI ((x 12).1 1)), .int (nI ((x 12).1 2)), .int (nI ((x 12).1 3)), .int (nI ((x 12).1 4)), .int (nI ((x 12).1 5)), .ref ((x 12).1 6), .int (nI ((x 12).1 7)), .int (nI ((x 12).1 8)), .ref ((x 12).1 9), .int (nI ((x 12).1 10))])), ((x 12).1 6, .inl (ci 0, 60, .inl (nF ((x 12).2 0)))), ((x 12).1 9, .inl (ci 0, 60, .inl (nF ((x 12).2 1)))), (ad 34, .inr (0, [.int (nI ((x 13).1 0)), .int (nI ((x 13).1 1)), .int (nI ((x 13).1 2)), .int (nI ((x 13).1 3)), .int (nI ((x 13).1 4)), .int (nI ((x 13).1 5)), .ref ((x 13).1 6), .int (nI ((x 13).1 7)), .int (nI ((x 13).1 8)), .ref ((x 13).1 9), .int (nI ((x 13).1 10))])), ((x 13).1 6, .inl (ci 0, 60, .inl (nF ((x 13).2 0)))), ((x 13).1 9, .inl (ci 0, 60, .inl (nF ((x 13).2 1)))), (ad 35, .inr (1, [.ref (ad 36), .int (nI ((x 14).1 1))])), (ad 36, .inl (ci 0, 16, .inl (nF ((x 14).2 0)))), (ad 37, .inr (1, [.ref (ad 38), .int (nI ((x 15).1 1))])), (ad 38, .inl (ci 0, 16, .inl (nF ((x 15).2 0))))] H0 := hP
  replace hD : va_D A9 [(ad 0, .inr (5, [.int (nI ((x 0).1 0)), .int (nI ((x 0).1 1)), .ref (ad 1), .ref (ad 29), .ref (ad 35), .ref (ad 37), .int (nI ((x 0).1 6)), .int (nI ((x 0).1 7))])), (ad 1, .inl (ci 2, 3, .inr (.inr (.inr (.inr (fun i => if i = 0 then some (ad 2) else if i = 1 then some (ad 11) else some (ad 20))))))), (ad 2, .inr (3, [.ref (ad 3), .ref (ad 7), .int (nI ((x 1).1 2)), .int (nI ((x 1).1 3)), .int (nI ((x 1).1 4)), .int (nI ((x 1).1 5)), .int (nI ((x 1).1 6)), .int (nI ((x 1).1 7))])), (ad 3, .inr (4, [.ref (ad 4), .ref (ad 5), .ref (ad 6), .int (nI ((x 2).1 3))])), (ad 4, .inl (ci 0, 8, .inl (nF ((x 2).2 0)))), (ad 5, .inl (ci 0, 8, .inl (nF ((x 2).2 1)))), (ad 6, .inl (ci 0, 8, .inl (nF ((x 2).2 2)))), (ad 7, .inr (4, [.ref (ad 8), .ref (ad 9), .ref (ad 10), .int (nI ((x 3).1 3))])), (ad 8, .inl (ci 0, 8, .inl (nF ((x 3).2 0)))), (ad 9, .inl (ci 0, 8, .inl (nF ((x 3).2 1)))), (ad 10, .inl (ci 0, 8, .inl (nF ((x 3).2 2)))), (ad 11, .inr (3, [.ref (ad 12), .ref (ad 16), .int (nI ((x 4).1 2)), .int (nI ((x 4).1 3)), .int (nI ((x 4).1 4)), .int (nI ((x 4).1 5)), .int (nI ((x 4).1 6)), .int (nI ((x 4).1 7))])), (ad 12, .inr (4, [.ref (ad 13), .ref (ad 14), .ref (ad 15), .int (nI ((x 5).1 3))])), (ad 13, .inl (ci 0, 8, .inl (nF ((x 5).2 0)))), (ad 14, .inl (ci 0, 8, .inl (nF ((x 5).2 1)))), (ad 15, .inl (ci 0, 8, .inl (nF ((x 5).2 2)))), (ad 16, .inr (4, [.ref (ad 17), .ref (ad 18), .ref (ad 19), .int (nI ((x 6).1 3))])), (ad 17, .inl (ci 0, 8, .inl (nF ((x 6).2 0)))), (ad 18, .inl (ci 0, 8, .inl (nF ((x 6).2 1)))), (ad 19, .inl (ci 0, 8, .inl (nF ((x 6).2 2)))), (ad 20, .inr (3, [.ref (ad 21), .ref (ad 25), .int (nI ((x 7).1 2)), .int (nI ((x 7).1 3)), .int (nI ((x 7).1 4)), .int (nI ((x 7).1 5)), .int (nI ((x 7).1 6)), .int (nI ((x 7).1 7))])), (ad 21, .inr (4, [.ref (ad 22), .ref (ad 23), .ref (ad 24), .int (nI ((x 8).1 3))])), (ad 22, .inl (ci 0, 8, .inl (nF ((x 8).2 0)))), (ad 23, .inl (ci 0, 8, .inl (nF ((x 8).2 1)))), (ad 24, .inl (ci 0, 8, .inl (nF ((x 8).2 2)))), (ad 25, .inr (4, [.ref (ad 26), .ref (ad 27), .ref (ad 28), .int (nI ((x 9).1 3))])), (ad 26, .inl (ci 0, 8, .inl (nF ((x 9).2 0)))), (ad 27, .inl (ci 0, 8, .inl (nF ((x 9).2 1)))), (ad 28, .inl (ci 0, 8, .inl (nF ((x 9).2 2)))), (ad 29, .inr (2, [.ref (ad 30), .ref (ad 31), .int (nI ((x 10).1 2)), .int (nI ((x 10).1 3))])), (ad 31, .inl (ci 0, 6, .inl (nF ((x 10).2 0)))), (ad 30, .inl (ci 3, 3, .inr (.inr (.inr (.inr (fun i => if i = 0 then some (ad 32) else if i = 1 then some (ad 33) else some (ad 34))))))), (ad 32, .inr (0, [.int (nI ((x 11).1 0)), .int (nI ((x 11).1 1)), .int (nI ((x 11).1 2)), .int (nI ((x 11).1 3)), .int (nI ((x 11).1 4)), .int (nI ((x 11).1 5)), .ref ((x 11).1 6), .int (nI ((x 11).1 7)), .int (nI ((x 11).1 8)), .ref ((x 11).1 9), .int (nI ((x 11).1 10))])), ((x 11).1 6, .inl (ci 0, 60, .inl (nF ((x 11).2 0)))), ((x 11).1 9, .inl (ci 0, 60, .inl (nF ((x 11).2 1)))), (ad 33, .inr (0, [.int (nI ((x 12).1 0)), .int (nI ((x 12).1 1)), .int (nI ((x 12).1 2)), .int (nI ((x 12).1 3)), .int (nI ((x 12).1 4)), .int (nI ((x 12).1 5)), .ref ((x 12).1 6), .int (nI ((x 12).1 7)), .int (nI ((x 12).1 8)), .ref ((x 12).1 9), .int (nI ((x 12).1 10))])), ((x 12).1 6, .inl (ci 0, 60, .inl (nF ((x 12).2 0)))), ((x 12).1 9, .inl (ci 0, 60, .inl (nF ((x 12).2 1)))), (ad 34, .inr (0, [.int (nI ((x 13).1 0)), .int (nI ((x 13).1 1)), .int (nI ((x 13).1 2)), .int (nI ((x 13).1 3)), .int (nI ((x 13).1 4)), .int (nI ((x 13).1 5)), .ref ((x 13).1 6), .int (nI ((x 13).1 7)), .int (nI ((x 13).1 8)), .ref ((x 13).1 9), .int (nI ((x 13).1 10))])), ((x 13).1 6, .inl (ci 0, 60, .inl (nF ((x 13).2 0)))), ((x 13).1 9, .inl (ci 0, 60, .inl (nF ((x 13).2 1)))), (ad 35, .inr (1, [.ref (ad 36), .int (nI ((x 14).1 1))])), (ad 36, .inl (ci 0, 16, .inl (nF ((x 14).2 0)))), (ad 37, .inr (1, [.ref (ad 38), .int (nI ((x 15).1 1))])), (ad 38, .inl (ci 0, 16, .inl (nF ((x 15).2 0))))] := hD
  replace hown : s9.vm.findClass R_X = some m9.cls := hown
  have hT : ∀ w ∈ lw_ok, w.before args9 s9 = true := fun w h => hts w (List.mem_cons_of_mem _ h)
  rw [fX_latest] at hF
  generalize hH : H0 = H at hP ⊢
  replace hS : va_S A9 H0 H [] := by rw [← hH]; exact hS
  clear hH
  generalize ([] : List Loc) = locs at hS ⊢
  refine lv_iload_n hx hb d_X_latest_0 rfl (lv_at hl 1 rfl) ?_
  obtain ⟨r1, g2, hF⟩ := ob_s hF
  refine ln_goi0 (va_runS (As := [.int v1]) (rest := []) ⟨hx, hb, hml, hown, hT⟩ (cisStreamI l D ci   v1 _ g2 H.size) (cw_S 1 hT wd_193 wd_1 wd_195 wd_194 (by decide +kernel) (by decide) (by decide)) (ln_pre hK hN (hP.subM [] rfl) (hD.sub [] (by decide) rfl)) rfl rfl hl.1 rfl (lv_room (Nat.le_of_ble_eq_true rfl)) d_X_latest_1 ⟨Nat.zero_le _, Nat.zero_le _⟩) hP hS hA (fun H locs hP hS => ?_)
  obtain ⟨b3, hF⟩ := ss_s hF
  refine ln_if_eq hx hb b3 22 d_X_latest_4 (by decide) (fun h4 => ?_) (fun h4 => ?_)
  · have hF := it_p hF h4
    refine lv_iconst (v := (-1)) hx hb d_X_latest_22 (by decide) ?_
    obtain rfl := Option.some.inj hF
    exact kR _ _ _ _ d_X_latest_23 rfl hP hD hS
  · have hF := it_n hF h4
    refine lv_aload_n hx hb d_X_latest_7 rfl (lv_at hl 0 rfl) ?_
    refine va_get (D := D) (ci := 5) (v := .ref (ad 29)) (C := R_X) (T := F_X) (N := 8) hx hb hT in_X hown hK hP 0 rfl rfl 3 (by decide) (hT _ wd_167) (fun _ h9 => h9) rfl d_X_latest_8 ?_
    refine va_getN (D := D) (ci := 2) (v := .ref (ad 30)) (C := R_R) (T := F_R) (N := 4) hx hb hT in_R hown hK hP 29 rfl rfl 0 (by decide) (va_Nw.use rfl (hN.1 _ nf_135)) (fun _ h9 => h9) rfl d_X_latest_11 ?_
    refine lv_iload_n hx hb d_X_latest_14 rfl (lv_at hl 1 rfl) ?_
    by_cases h5 : v1 = nI 0
    · have hF := it_p hF h5
      rw [h5] at hl ⊢
      refine ln_rald hx hb hK hP 31 3 rfl rfl (by decide) (by decide) (ad 32) rfl d_X_latest_15 ?_
      refine va_getN (D := D) (ci := 0) (v := .int (nI ((x 11).1 10))) (C := R_C) (T := F_C) (N := 11) hx hb hT in_C hown hK hP 32 rfl rfl 10 (by decide) (va_Nw.use rfl (hN.1 _ nf_110)) (fun _ h9 => h9) rfl d_X_latest_16 ?_
      obtain ⟨b6, hF⟩ := ss_s hF
      refine ln_if_ne hx hb b6 24 d_X_latest_19 (by decide) (fun h7 => ?_) (fun h7 => ?_)
      · have hF := it_p hF h7
        refine lv_aload_n hx hb d_X_latest_24 rfl (lv_at hl 0 rfl) ?_
        refine va_get (D := D) (ci := 5) (v := .ref (ad 29)) (C := R_X) (T := F_X) (N := 8) hx hb hT in_X hown hK hP 0 rfl rfl 3 (by decide) (hT _ wd_167) (fun _ h9 => h9) rfl d_X_latest_25 ?_
        refine va_getN (D := D) (ci := 2) (v := .ref (ad 30)) (C := R_R) (T := F_R) (N := 4) hx hb hT in_R hown hK hP 29 rfl rfl 0 (by decide) (va_Nw.use rfl (hN.1 _ nf_135)) (fun _ h9 => h9) rfl d_X_latest_28 ?_
        refine lv_iload_n hx hb d_X_latest_31 rfl (lv_at hl 1 rfl) ?_
        refine ln_rald hx hb hK hP 31 3 rfl rfl (by decide) (by decide) (ad 32) rfl d_X_latest_32 ?_
        refine lv_astore_n hx hb d_X_latest_33 rfl hl (by decide) rfl (fun ls hl => ?_)
        replace hl : lv_has ls 4 [(3, .ref (ad 32)), (0, .ref (ad 0)), (1, .int (nI 0)), (2, .int v2)] := hl
        refine lv_iload_n hx hb d_X_latest_34 rfl (lv_at hl 3 rfl) ?_
        by_cases h8 : v2 = nI 0
        · have hF := it_p hF h8
          rw [h8]
          refine lv_tableIn (tgt := 60) hx hb d_X_latest_35 (by decide) (by decide) (off := 25) (by decide) (by decide) ?_
          refine lv_aload_n hx hb d_X_latest_60 rfl (lv_at hl 0 rfl) ?_
          refine va_getN (D := D) (ci := 0) (v := .int (nI ((x 11).1 7))) (C := R_C) (T := F_C) (N := 11) hx hb hT in_C hown hK hP 32 rfl rfl 7 (by decide) (va_Nw.use rfl (hN.1 _ nf_103)) (fun _ h9 => h9) rfl d_X_latest_61 ?_
          obtain rfl := Option.some.inj hF
          exact kR _ _ _ _ d_X_latest_64 rfl hP hD hS
        have hF := it_n hF h8
        by_cases h9 : v2 = nI 1
        · have hF := it_p hF h9
          rw [h9]
          refine lv_tableIn (tgt := 65) hx hb d_X_latest_35 (by decide) (by decide) (off := 30) (by decide) (by decide) ?_
          refine lv_aload_n hx hb d_X_latest_65 rfl (lv_at hl 0 rfl) ?_
          refine va_getN (D := D) (ci := 0) (v := .int (nI ((x 11).1 8))) (C := R_C) (T := F_C) (N := 11) hx hb hT in_C hown hK hP 32 rfl rfl 8 (by decide) (va_Nw.use rfl (hN.1 _ nf_106)) (fun _ h9 => h9) rfl d_X_latest_66 ?_
          obtain rfl := Option.some.inj hF
          exact kR _ _ _ _ d_X_latest_69 rfl hP hD hS
        have hF := it_n hF h9
        by_cases h10 : v2 = nI 2
        · have hF := it_p hF h10
          rw [h10]
          refine lv_tableIn (tgt := 70) hx hb d_X_latest_35 (by decide) (by decide) (off := 35) (by decide) (by decide) ?_
          refine lv_aload_n hx hb d_X_latest_70 rfl (lv_at hl 0 rfl) ?_
          refine va_getN (D := D) (ci := 0) (v := .int (nI ((x 11).1 10))) (C := R_C) (T := F_C) (N := 11) hx hb hT in_C hown hK hP 32 rfl rfl 10 (by decide) (va_Nw.use rfl (hN.1 _ nf_110)) (fun _ h9 => h9) rfl d_X_latest_71 ?_
          obtain rfl := Option.some.inj hF
          exact kR _ _ _ _ d_X_latest_74 rfl hP hD hS
        have hF := it_n hF h10
        refine lv_tableOut (tgt := 75) hx hb d_X_latest_35 (ln_out3 h8 h9 h10) (by decide) ?_
        refine lv_iconst (v := (-1)) hx hb d_X_latest_75 (by decide) ?_
        obtain rfl := Option.some.inj hF
        exact kR _ _ _ _ d_X_latest_76 rfl hP hD hS
      · have hF := it_n hF h7
        refine lv_iconst (v := (-1)) hx hb d_X_latest_22 (by decide) ?_
        obtain rfl := Option.some.inj hF
        exact kR _ _ _ _ d_X_latest_23 rfl hP hD hS
    have hF := it_n hF h5
    by_cases h11 : v1 = nI 1
    · have hF := it_p hF h11
      rw [h11] at hl ⊢
      refine ln_rald hx hb hK hP 31 3 rfl rfl (by decide) (by decide) (ad 33) rfl d_X_latest_15 ?_
      refine va_getN (D := D) (ci := 0) (v := .int (nI ((x 12).1 10))) (C := R_C) (T := F_C) (N := 11) hx hb hT in_C hown hK hP 35 rfl rfl 10 (by decide) (va_Nw.use rfl (hN.1 _ nf_110)) (fun _ h9 => h9) rfl d_X_latest_16 ?_
      obtain ⟨b12, hF⟩ := ss_s hF
      refine ln_if_ne hx hb b12 24 d_X_latest_19 (by decide) (fun h13 => ?_) (fun h13 => ?_)
      · have hF := it_p hF h13
        refine lv_aload_n hx hb d_X_latest_24 rfl (lv_at hl 0 rfl) ?_
        refine va_get (D := D) (ci := 5) (v := .ref (ad 29)) (C := R_X) (T := F_X) (N := 8) hx hb hT in_X hown hK hP 0 rfl rfl 3 (by decide) (hT _ wd_167) (fun _ h9 => h9) rfl d_X_latest_25 ?_
        refine va_getN (D := D) (ci := 2) (v := .ref (ad 30)) (C := R_R) (T := F_R) (N := 4) hx hb hT in_R hown hK hP 29 rfl rfl 0 (by decide) (va_Nw.use rfl (hN.1 _ nf_135)) (fun _ h9 => h9) rfl d_X_latest_28 ?_
        refine lv_iload_n hx hb d_X_latest_31 rfl (lv_at hl 1 rfl) ?_
        refine ln_rald hx hb hK hP 31 3 rfl rfl (by decide) (by decide) (ad 33) rfl d_X_latest_32 ?_
        refine lv_astore_n hx hb d_X_latest_33 rfl hl (by decide) rfl (fun ls hl => ?_)
        replace hl : lv_has ls 4 [(3, .ref (ad 33)), (0, .ref (ad 0)), (1, .int (nI 1)), (2, .int v2)] := hl
        refine lv_iload_n hx hb d_X_latest_34 rfl (lv_at hl 3 rfl) ?_
        by_cases h14 : v2 = nI 0
        · have hF := it_p hF h14
          rw [h14]
          refine lv_tableIn (tgt := 60) hx hb d_X_latest_35 (by decide) (by decide) (off := 25) (by decide) (by decide) ?_
          refine lv_aload_n hx hb d_X_latest_60 rfl (lv_at hl 0 rfl) ?_
          refine va_getN (D := D) (ci := 0) (v := .int (nI ((x 12).1 7))) (C := R_C) (T := F_C) (N := 11) hx hb hT in_C hown hK hP 35 rfl rfl 7 (by decide) (va_Nw.use rfl (hN.1 _ nf_103)) (fun _ h9 => h9) rfl d_X_latest_61 ?_
          obtain rfl := Option.some.inj hF
          exact kR _ _ _ _ d_X_latest_64 rfl hP hD hS
        have hF := it_n hF h14
        by_cases h15 : v2 = nI 1
        · have hF := it_p hF h15
          rw [h15]
          refine lv_tableIn (tgt := 65) hx hb d_X_latest_35 (by decide) (by decide) (off := 30) (by decide) (by decide) ?_
          refine lv_aload_n hx hb d_X_latest_65 rfl (lv_at hl 0 rfl) ?_
          refine va_getN (D := D) (ci := 0) (v := .int (nI ((x 12).1 8))) (C := R_C) (T := F_C) (N := 11) hx hb hT in_C hown hK hP 35 rfl rfl 8 (by decide) (va_Nw.use rfl (hN.1 _ nf_106)) (fun _ h9 => h9) rfl d_X_latest_66 ?_
          obtain rfl := Option.some.inj hF
          exact kR _ _ _ _ d_X_latest_69 rfl hP hD hS
        have hF := it_n hF h15
        by_cases h16 : v2 = nI 2
        · have hF := it_p hF h16
          rw [h16]
          refine lv_tableIn (tgt := 70) hx hb d_X_latest_35 (by decide) (by decide) (off := 35) (by decide) (by decide) ?_
          refine lv_aload_n hx hb d_X_latest_70 rfl (lv_at hl 0 rfl) ?_
          refine va_getN (D := D) (ci := 0) (v := .int (nI ((x 12).1 10))) (C := R_C) (T := F_C) (N := 11) hx hb hT in_C hown hK hP 35 rfl rfl 10 (by decide) (va_Nw.use rfl (hN.1 _ nf_110)) (fun _ h9 => h9) rfl d_X_latest_71 ?_
          obtain rfl := Option.some.inj hF
          exact kR _ _ _ _ d_X_latest_74 rfl hP hD hS
        have hF := it_n hF h16
        refine lv_tableOut (tgt := 75) hx hb d_X_latest_35 (ln_out3 h14 h15 h16) (by decide) ?_
        refine lv_iconst (v := (-1)) hx hb d_X_latest_75 (by decide) ?_
        obtain rfl := Option.some.inj hF
        exact kR _ _ _ _ d_X_latest_76 rfl hP hD hS
      · have hF := it_n hF h13
        refine lv_iconst (v := (-1)) hx hb d_X_latest_22 (by decide) ?_
        obtain rfl := Option.some.inj hF
        exact kR _ _ _ _ d_X_latest_23 rfl hP hD hS
    have hF := it_n hF h11
    by_cases h17 : v1 = nI 2
    · have hF := it_p hF h17
      rw [h17] at hl ⊢
      refine ln_rald hx hb hK hP 31 3 rfl rfl (by decide) (by decide) (ad 34) rfl d_X_latest_15 ?_
      refine va_getN (D := D) (ci := 0) (v := .int (nI ((x 13).1 10))) (C := R_C) (T := F_C) (N := 11) hx hb hT in_C hown hK hP 38 rfl rfl 10 (by decide) (va_Nw.use rfl (hN.1 _ nf_110)) (fun _ h9 => h9) rfl d_X_latest_16 ?_
      obtain ⟨b18, hF⟩ := ss_s hF
      refine ln_if_ne hx hb b18 24 d_X_latest_19 (by decide) (fun h19 => ?_) (fun h19 => ?_)
      · have hF := it_p hF h19
        refine lv_aload_n hx hb d_X_latest_24 rfl (lv_at hl 0 rfl) ?_
        refine va_get (D := D) (ci := 5) (v := .ref (ad 29)) (C := R_X) (T := F_X) (N := 8) hx hb hT in_X hown hK hP 0 rfl rfl 3 (by decide) (hT _ wd_167) (fun _ h9 => h9) rfl d_X_latest_25 ?_
        refine va_getN (D := D) (ci := 2) (v := .ref (ad 30)) (C := R_R) (T := F_R) (N := 4) hx hb hT in_R hown hK hP 29 rfl rfl 0 (by decide) (va_Nw.use rfl (hN.1 _ nf_135)) (fun _ h9 => h9) rfl d_X_latest_28 ?_
        refine lv_iload_n hx hb d_X_latest_31 rfl (lv_at hl 1 rfl) ?_
        refine ln_rald hx hb hK hP 31 3 rfl rfl (by decide) (by decide) (ad 34) rfl d_X_latest_32 ?_
        refine lv_astore_n hx hb d_X_latest_33 rfl hl (by decide) rfl (fun ls hl => ?_)
        replace hl : lv_has ls 4 [(3, .ref (ad 34)), (0, .ref (ad 0)), (1, .int (nI 2)), (2, .int v2)] := hl
        refine lv_iload_n hx hb d_X_latest_34 rfl (lv_at hl 3 rfl) ?_
        by_cases h20 : v2 = nI 0
        · have hF := it_p hF h20
          rw [h20]
          refine lv_tableIn (tgt := 60) hx hb d_X_latest_35 (by decide) (by decide) (off := 25) (by decide) (by decide) ?_
          refine lv_aload_n hx hb d_X_latest_60 rfl (lv_at hl 0 rfl) ?_
          refine va_getN (D := D) (ci := 0) (v := .int (nI ((x 13).1 7))) (C := R_C) (T := F_C) (N := 11) hx hb hT in_C hown hK hP 38 rfl rfl 7 (by decide) (va_Nw.use rfl (hN.1 _ nf_103)) (fun _ h9 => h9) rfl d_X_latest_61 ?_
          obtain rfl := Option.some.inj hF
          exact kR _ _ _ _ d_X_latest_64 rfl hP hD hS
        have hF := it_n hF h20
        by_cases h21 : v2 = nI 1
        · have hF := it_p hF h21
          rw [h21]
          refine lv_tableIn (tgt := 65) hx hb d_X_latest_35 (by decide) (by decide) (off := 30) (by decide) (by decide) ?_
          refine lv_aload_n hx hb d_X_latest_65 rfl (lv_at hl 0 rfl) ?_
          refine va_getN (D := D) (ci := 0) (v := .int (nI ((x 13).1 8))) (C := R_C) (T := F_C) (N := 11) hx hb hT in_C hown hK hP 38 rfl rfl 8 (by decide) (va_Nw.use rfl (hN.1 _ nf_106)) (fun _ h9 => h9) rfl d_X_latest_66 ?_
          obtain rfl := Option.some.inj hF
          exact kR _ _ _ _ d_X_latest_69 rfl hP hD hS
        have hF := it_n hF h21
        by_cases h22 : v2 = nI 2
        · have hF := it_p hF h22
          rw [h22]
          refine lv_tableIn (tgt := 70) hx hb d_X_latest_35 (by decide) (by decide) (off := 35) (by decide) (by decide) ?_
          refine lv_aload_n hx hb d_X_latest_70 rfl (lv_at hl 0 rfl) ?_
          refine va_getN (D := D) (ci := 0) (v := .int (nI ((x 13).1 10))) (C := R_C) (T := F_C) (N := 11) hx hb hT in_C hown hK hP 38 rfl rfl 10 (by decide) (va_Nw.use rfl (hN.1 _ nf_110)) (fun _ h9 => h9) rfl d_X_latest_71 ?_
          obtain rfl := Option.some.inj hF
          exact kR _ _ _ _ d_X_latest_74 rfl hP hD hS
        have hF := it_n hF h22
        refine lv_tableOut (tgt := 75) hx hb d_X_latest_35 (ln_out3 h20 h21 h22) (by decide) ?_
        refine lv_iconst (v := (-1)) hx hb d_X_latest_75 (by decide) ?_
        obtain rfl := Option.some.inj hF
        exact kR _ _ _ _ d_X_latest_76 rfl hP hD hS
      · have hF := it_n hF h19
        refine lv_iconst (v := (-1)) hx hb d_X_latest_22 (by decide) ?_
        obtain rfl := Option.some.inj hF
        exact kR _ _ _ _ d_X_latest_23 rfl hP hD hS
    have hF := it_n hF h17
    cases hF
def fX_letter (x : XS) (v1 : Int32) (v2 : Int32) : Option (Int32) := ob (fisStreamI v1) (fun r1 => ss (r1 < 2147483648) ((if r1 = 0 then some (-1) else (if v1 = nI 0 then ss (((x 11).1 10) < 2147483648) ((if ¬ ((x 11).1 10) = 0 then (if v2 < 0 then some (-1) else (if (nI ((x 11).1 7)) ≤ v2 then some (-1) else ss (¬ v2 < 0) (ss (v2.toNatClampNeg < 60) (some (nI (((x 11).2 1) v2.toNatClampNeg)))))) else some (-1))) else (if v1 = nI 1 then ss (((x 12).1 10) < 2147483648) ((if ¬ ((x 12).1 10) = 0 then (if v2 < 0 then some (-1) else (if (nI ((x 12).1 7)) ≤ v2 then some (-1) else ss (¬ v2 < 0) (ss (v2.toNatClampNeg < 60) (some (nI (((x 12).2 1) v2.toNatClampNeg)))))) else some (-1))) else (if v1 = nI 2 then ss (((x 13).1 10) < 2147483648) ((if ¬ ((x 13).1 10) = 0 then (if v2 < 0 then some (-1) else (if (nI ((x 13).1 7)) ≤ v2 then some (-1) else ss (¬ v2 < 0) (ss (v2.toNatClampNeg < 60) (some (nI (((x 13).2 1) v2.toNatClampNeg)))))) else some (-1))) else none))))))
abbrev rm_X_letter : Room := { frames := 1, cells := 0, slots := 0, locals := 20 }
set_option maxHeartbeats 4000000 in
set_option maxRecDepth 100000 in
theorem cX_letter (l : Launch) (D : va_G) (ci : Nat → ClassId) (ad : Nat → Nat) (x : XS) (v1 : Int32) (v2 : Int32) (o : Int32) (hF : fX_letter x v1 v2 = some o) : CtI l y_X_letter w_X_letter rm_X_letter D vwCl (tyC ci) [.ref (ad 0), .int v1, .int v2] (wX ad ci x) o (wX ad ci x) := by
  refine ct_i (cc := b_X_letter) (maxL := 4) (plainFor_of_name (by decide)) rfl (Nat.le_of_ble_eq_true rfl) (fun p9 e9 s9 m9 args9 be9 me9 c9 A9 Q9 ls H0 hx hb hml hts hown hK hN hl hP hD hS hA kR => ?_)
  replace hl : lv_has ls 4 [(0, .ref (ad 0)), (1, .int v1), (2, .int v2)] := hl
  replace hP : va_P D vwCl [(ad 0, .inr (5, [.int (nI ((x 0).1 0)), .int (nI ((x 0).1 1)), .ref (ad 1), .ref (ad 29), .ref (ad 35), .ref (ad 37), .int (nI ((x 0).1 6)), .int (nI ((x 0).1 7))])), (ad 1, .inl (ci 2, 3, .inr (.inr (.inr (.inr (fun i => if i = 0 then some (ad 2) else if i = 1 then some (ad 11) else some (ad 20))))))), (ad 2, .inr (3, [.ref (ad 3), .ref (ad 7), .int (nI ((x 1).1 2)), .int (nI ((x 1).1 3)), .int (nI ((x 1).1 4)), .int (nI ((x 1).1 5)), .int (nI ((x 1).1 6)), .int (nI ((x 1).1 7))])), (ad 3, .inr (4, [.ref (ad 4), .ref (ad 5), .ref (ad 6), .int (nI ((x 2).1 3))])), (ad 4, .inl (ci 0, 8, .inl (nF ((x 2).2 0)))), (ad 5, .inl (ci 0, 8, .inl (nF ((x 2).2 1)))), (ad 6, .inl (ci 0, 8, .inl (nF ((x 2).2 2)))), (ad 7, .inr (4, [.ref (ad 8), .ref (ad 9), .ref (ad 10), .int (nI ((x 3).1 3))])), (ad 8, .inl (ci 0, 8, .inl (nF ((x 3).2 0)))), (ad 9, .inl (ci 0, 8, .inl (nF ((x 3).2 1)))), (ad 10, .inl (ci 0, 8, .inl (nF ((x 3).2 2)))), (ad 11, .inr (3, [.ref (ad 12), .ref (ad 16), .int (nI ((x 4).1 2)), .int (nI ((x 4).1 3)), .int (nI ((x 4).1 4)), .int (nI ((x 4).1 5)), .int (nI ((x 4).1 6)), .int (nI ((x 4).1 7))])), (ad 12, .inr (4, [.ref (ad 13), .ref (ad 14), .ref (ad 15), .int (nI ((x 5).1 3))])), (ad 13, .inl (ci 0, 8, .inl (nF ((x 5).2 0)))), (ad 14, .inl (ci 0, 8, .inl (nF ((x 5).2 1)))), (ad 15, .inl (ci 0, 8, .inl (nF ((x 5).2 2)))), (ad 16, .inr (4, [.ref (ad 17), .ref (ad 18), .ref (ad 19), .int (nI ((x 6).1 3))])), (ad 17, .inl (ci 0, 8, .inl (nF ((x 6).2 0)))), (ad 18, .inl (ci 0, 8, .inl (nF ((x 6).2 1)))), (ad 19, .inl (ci 0, 8, .inl (nF ((x 6).2 2)))), (ad 20, .inr (3, [.ref (ad 21), .ref (ad 25), .int (nI ((x 7).1 2)), .int (nI ((x 7).1 3)), .int (nI ((x 7).1 4)), .int (nI ((x 7).1 5)), .int (nI ((x 7).1 6)), .int (nI ((x 7).1 7))])), (ad 21, .inr (4, [.ref (ad 22), .ref (ad 23), .ref (ad 24), .int (nI ((x 8).1 3))])), (ad 22, .inl (ci 0, 8, .inl (nF ((x 8).2 0)))), (ad 23, .inl (ci 0, 8, .inl (nF ((x 8).2 1)))), (ad 24, .inl (ci 0, 8, .inl (nF ((x 8).2 2)))), (ad 25, .inr (4, [.ref (ad 26), .ref (ad 27), .ref (ad 28), .int (nI ((x 9).1 3))])), (ad 26, .inl (ci 0, 8, .inl (nF ((x 9).2 0)))), (ad 27, .inl (ci 0, 8, .inl (nF ((x 9).2 1)))), (ad 28, .inl (ci 0, 8, .inl (nF ((x 9).2 2)))), (ad 29, .inr (2, [.ref (ad 30), .ref (ad 31), .int (nI ((x 10).1 2)), .int (nI ((x 10).1 3))])), (ad 31, .inl (ci 0, 6, .inl (nF ((x 10).2 0)))), (ad 30, .inl (ci 3, 3, .inr (.inr (.inr (.inr (fun i => if i = 0 then some (ad 32) else if i = 1 then some (ad 33) else some (ad 34))))))), (ad 32, .inr (0, [.int (nI ((x 11).1 0)), .int (nI ((x 11).1 1)), .int (nI ((x 11).1 2)), .int (nI ((x 11).1 3)), .int (nI ((x 11).1 4)), .int (nI ((x 11).1 5)), .ref ((x 11).1 6), .int (nI ((x 11).1 7)), .int (nI ((x 11).1 8)), .ref ((x 11).1 9), .int (nI ((x 11).1 10))])), ((x 11).1 6, .inl (ci 0, 60, .inl (nF ((x 11).2 0)))), ((x 11).1 9, .inl (ci 0, 60, .inl (nF ((x 11).2 1)))), (ad 33, .inr (0, [.int (nI ((x 12).1 0)), .int (nI ((x 12).1 1)), .int (nI ((x 12).1 2)), .int (nI ((x 12).1 3)), .int (nI ((x 12).1 4)), .int (nI ((x 12).1 5)), .ref ((x 12).1 6), .int (nI ((x 12).1 7)), .int (nI ((x 12).1 8)), .ref ((x 12).1 9), .int (nI ((x 12).1 10))])), ((x 12).1 6, .inl (ci 0, 60, .inl (nF ((x 12).2 0)))), ((x 12).1 9, .inl (ci 0, 60, .inl (nF ((x 12).2 1)))), (ad 34, .inr (0, [.int (nI ((x 13).1 0)), .int (nI ((x 13).1 1)), .int (nI ((x 13).1 2)), .int (nI ((x 13).1 3)), .int (nI ((x 13).1 4)), .int (nI ((x 13).1 5)), .ref ((x 13).1 6), .int (nI ((x 13).1 7)), .int (nI ((x 13).1 8)), .ref ((x 13).1 9), .int (nI ((x 13).1 10))])), ((x 13).1 6, .inl (ci 0, 60, .inl (nF ((x 13).2 0)))), ((x 13).1 9, .inl (ci 0, 60, .inl (nF ((x 13).2 1)))), (ad 35, .inr (1, [.ref (ad 36), .int (nI ((x 14).1 1))])), (ad 36, .inl (ci 0, 16, .inl (nF ((x 14).2 0)))), (ad 37, .inr (1, [.ref (ad 38), .int (nI ((x 15).1 1))])), (ad 38, .inl (ci 0, 16, .inl (nF ((x 15).2 0))))] H0 := hP
  replace hD : va_D A9 [(ad 0, .inr (5, [.int (nI ((x 0).1 0)), .int (nI ((x 0).1 1)), .ref (ad 1), .ref (ad 29), .ref (ad 35), .ref (ad 37), .int (nI ((x 0).1 6)), .int (nI ((x 0).1 7))])), (ad 1, .inl (ci 2, 3, .inr (.inr (.inr (.inr (fun i => if i = 0 then some (ad 2) else if i = 1 then some (ad 11) else some (ad 20))))))), (ad 2, .inr (3, [.ref (ad 3), .ref (ad 7), .int (nI ((x 1).1 2)), .int (nI ((x 1).1 3)), .int (nI ((x 1).1 4)), .int (nI ((x 1).1 5)), .int (nI ((x 1).1 6)), .int (nI ((x 1).1 7))])), (ad 3, .inr (4, [.ref (ad 4), .ref (ad 5), .ref (ad 6), .int (nI ((x 2).1 3))])), (ad 4, .inl (ci 0, 8, .inl (nF ((x 2).2 0)))), (ad 5, .inl (ci 0, 8, .inl (nF ((x 2).2 1)))), (ad 6, .inl (ci 0, 8, .inl (nF ((x 2).2 2)))), (ad 7, .inr (4, [.ref (ad 8), .ref (ad 9), .ref (ad 10), .int (nI ((x 3).1 3))])), (ad 8, .inl (ci 0, 8, .inl (nF ((x 3).2 0)))), (ad 9, .inl (ci 0, 8, .inl (nF ((x 3).2 1)))), (ad 10, .inl (ci 0, 8, .inl (nF ((x 3).2 2)))), (ad 11, .inr (3, [.ref (ad 12), .ref (ad 16), .int (nI ((x 4).1 2)), .int (nI ((x 4).1 3)), .int (nI ((x 4).1 4)), .int (nI ((x 4).1 5)), .int (nI ((x 4).1 6)), .int (nI ((x 4).1 7))])), (ad 12, .inr (4, [.ref (ad 13), .ref (ad 14), .ref (ad 15), .int (nI ((x 5).1 3))])), (ad 13, .inl (ci 0, 8, .inl (nF ((x 5).2 0)))), (ad 14, .inl (ci 0, 8, .inl (nF ((x 5).2 1)))), (ad 15, .inl (ci 0, 8, .inl (nF ((x 5).2 2)))), (ad 16, .inr (4, [.ref (ad 17), .ref (ad 18), .ref (ad 19), .int (nI ((x 6).1 3))])), (ad 17, .inl (ci 0, 8, .inl (nF ((x 6).2 0)))), (ad 18, .inl (ci 0, 8, .inl (nF ((x 6).2 1)))), (ad 19, .inl (ci 0, 8, .inl (nF ((x 6).2 2)))), (ad 20, .inr (3, [.ref (ad 21), .ref (ad 25), .int (nI ((x 7).1 2)), .int (nI ((x 7).1 3)), .int (nI ((x 7).1 4)), .int (nI ((x 7).1 5)), .int (nI ((x 7).1 6)), .int (nI ((x 7).1 7))])), (ad 21, .inr (4, [.ref (ad 22), .ref (ad 23), .ref (ad 24), .int (nI ((x 8).1 3))])), (ad 22, .inl (ci 0, 8, .inl (nF ((x 8).2 0)))), (ad 23, .inl (ci 0, 8, .inl (nF ((x 8).2 1)))), (ad 24, .inl (ci 0, 8, .inl (nF ((x 8).2 2)))), (ad 25, .inr (4, [.ref (ad 26), .ref (ad 27), .ref (ad 28), .int (nI ((x 9).1 3))])), (ad 26, .inl (ci 0, 8, .inl (nF ((x 9).2 0)))), (ad 27, .inl (ci 0, 8, .inl (nF ((x 9).2 1)))), (ad 28, .inl (ci 0, 8, .inl (nF ((x 9).2 2)))), (ad 29, .inr (2, [.ref (ad 30), .ref (ad 31), .int (nI ((x 10).1 2)), .int (nI ((x 10).1 3))])), (ad 31, .inl (ci 0, 6, .inl (nF ((x 10).2 0)))), (ad 30, .inl (ci 3, 3, .inr (.inr (.inr (.inr (fun i => if i = 0 then some (ad 32) else if i = 1 then some (ad 33) else some (ad 34))))))), (ad 32, .inr (0, [.int (nI ((x 11).1 0)), .int (nI ((x 11).1 1)), .int (nI ((x 11).1 2)), .int (nI ((x 11).1 3)), .int (nI ((x 11).1 4)), .int (nI ((x 11).1 5)), .ref ((x 11).1 6), .int (nI ((x 11).1 7)), .int (nI ((x 11).1 8)), .ref ((x 11).1 9), .int (nI ((x 11).1 10))])), ((x 11).1 6, .inl (ci 0, 60, .inl (nF ((x 11).2 0)))), ((x 11).1 9, .inl (ci 0, 60, .inl (nF ((x 11).2 1)))), (ad 33, .inr (0, [.int (nI ((x 12).1 0)), .int (nI ((x 12).1 1)), .int (nI ((x 12).1 2)), .int (nI ((x 12).1 3)), .int (nI ((x 12).1 4)), .int (nI ((x 12).1 5)), .ref ((x 12).1 6), .int (nI ((x 12).1 7)), .int (nI ((x 12).1 8)), .ref ((x 12).1 9), .int (nI ((x 12).1 10))])), ((x 12).1 6, .inl (ci 0, 60, .inl (nF ((x 12).2 0)))), ((x 12).1 9, .inl (ci 0, 60, .inl (nF ((x 12).2 1)))), (ad 34, .inr (0, [.int (nI ((x 13).1 0)), .int (nI ((x 13).1 1)), .int (nI ((x 13).1 2)), .int (nI ((x 13).1 3)), .int (nI ((x 13).1 4)), .int (nI ((x 13).1 5)), .ref ((x 13).1 6), .int (nI ((x 13).1 7)), .int (nI ((x 13).1 8)), .ref ((x 13).1 9), .int (nI ((x 13).1 10))])), ((x 13).1 6, .inl (ci 0, 60, .inl (nF ((x 13).2 0)))), ((x 13).1 9, .inl (ci 0, 60, .inl (nF ((x 13).2 1)))), (ad 35, .inr (1, [.ref (ad 36), .int (nI ((x 14).1 1))])), (ad 36, .inl (ci 0, 16, .inl (nF ((x 14).2 0)))), (ad 37, .inr (1, [.ref (ad 38), .int (nI ((x 15).1 1))])), (ad 38, .inl (ci 0, 16, .inl (nF ((x 15).2 0))))] := hD
  replace hown : s9.vm.findClass R_X = some m9.cls := hown
  have hT : ∀ w ∈ lw_ok, w.before args9 s9 = true := fun w h => hts w (List.mem_cons_of_mem _ h)
  rw [fX_letter] at hF
  generalize hH : H0 = H at hP ⊢
  replace hS : va_S A9 H0 H [] := by rw [← hH]; exact hS
  clear hH
  generalize ([] : List Loc) = locs at hS ⊢
  refine lv_iload_n hx hb d_X_letter_0 rfl (lv_at hl 1 rfl) ?_
  obtain ⟨r1, g2, hF⟩ := ob_s hF
  refine ln_goi0 (va_runS (As := [.int v1]) (rest := []) ⟨hx, hb, hml, hown, hT⟩ (cisStreamI l D ci   v1 _ g2 H.size) (cw_S 1 hT wd_193 wd_1 wd_195 wd_194 (by decide +kernel) (by decide) (by decide)) (ln_pre hK hN (hP.subM [] rfl) (hD.sub [] (by decide) rfl)) rfl rfl hl.1 rfl (lv_room (Nat.le_of_ble_eq_true rfl)) d_X_letter_1 ⟨Nat.zero_le _, Nat.zero_le _⟩) hP hS hA (fun H locs hP hS => ?_)
  obtain ⟨b3, hF⟩ := ss_s hF
  refine ln_if_eq hx hb b3 22 d_X_letter_4 (by decide) (fun h4 => ?_) (fun h4 => ?_)
  · have hF := it_p hF h4
    refine lv_iconst (v := (-1)) hx hb d_X_letter_22 (by decide) ?_
    obtain rfl := Option.some.inj hF
    exact kR _ _ _ _ d_X_letter_23 rfl hP hD hS
  · have hF := it_n hF h4
    refine lv_aload_n hx hb d_X_letter_7 rfl (lv_at hl 0 rfl) ?_
    refine va_get (D := D) (ci := 5) (v := .ref (ad 29)) (C := R_X) (T := F_X) (N := 8) hx hb hT in_X hown hK hP 0 rfl rfl 3 (by decide) (hT _ wd_167) (fun _ h9 => h9) rfl d_X_letter_8 ?_
    refine va_getN (D := D) (ci := 2) (v := .ref (ad 30)) (C := R_R) (T := F_R) (N := 4) hx hb hT in_R hown hK hP 29 rfl rfl 0 (by decide) (va_Nw.use rfl (hN.1 _ nf_135)) (fun _ h9 => h9) rfl d_X_letter_11 ?_
    refine lv_iload_n hx hb d_X_letter_14 rfl (lv_at hl 1 rfl) ?_
    by_cases h5 : v1 = nI 0
    · have hF := it_p hF h5
      rw [h5] at hl ⊢
      refine ln_rald hx hb hK hP 31 3 rfl rfl (by decide) (by decide) (ad 32) rfl d_X_letter_15 ?_
      refine va_getN (D := D) (ci := 0) (v := .int (nI ((x 11).1 10))) (C := R_C) (T := F_C) (N := 11) hx hb hT in_C hown hK hP 32 rfl rfl 10 (by decide) (va_Nw.use rfl (hN.1 _ nf_110)) (fun _ h9 => h9) rfl d_X_letter_16 ?_
      obtain ⟨b6, hF⟩ := ss_s hF
      refine ln_if_ne hx hb b6 24 d_X_letter_19 (by decide) (fun h7 => ?_) (fun h7 => ?_)
      · have hF := it_p hF h7
        refine lv_aload_n hx hb d_X_letter_24 rfl (lv_at hl 0 rfl) ?_
        refine va_get (D := D) (ci := 5) (v := .ref (ad 29)) (C := R_X) (T := F_X) (N := 8) hx hb hT in_X hown hK hP 0 rfl rfl 3 (by decide) (hT _ wd_167) (fun _ h9 => h9) rfl d_X_letter_25 ?_
        refine va_getN (D := D) (ci := 2) (v := .ref (ad 30)) (C := R_R) (T := F_R) (N := 4) hx hb hT in_R hown hK hP 29 rfl rfl 0 (by decide) (va_Nw.use rfl (hN.1 _ nf_135)) (fun _ h9 => h9) rfl d_X_letter_28 ?_
        refine lv_iload_n hx hb d_X_letter_31 rfl (lv_at hl 1 rfl) ?_
        refine ln_rald hx hb hK hP 31 3 rfl rfl (by decide) (by decide) (ad 32) rfl d_X_letter_32 ?_
        refine lv_astore_n hx hb d_X_letter_33 rfl hl (by decide) rfl (fun ls hl => ?_)
        replace hl : lv_has ls 4 [(3, .ref (ad 32)), (0, .ref (ad 0)), (1, .int (nI 0)), (2, .int v2)] := hl
        refine lv_iload_n hx hb d_X_letter_34 rfl (lv_at hl 3 rfl) ?_
        refine lv_if_lt (tgt := 55) hx hb d_X_letter_35 (by decide) (fun h8 => ?_) (fun h8 => ?_)
        · have hF := it_p hF h8
          refine lv_iconst (v := (-1)) hx hb d_X_letter_55 (by decide) ?_
          obtain rfl := Option.some.inj hF
          exact kR _ _ _ _ d_X_letter_56 rfl hP hD hS
        · have hF := it_n hF h8
          refine lv_iload_n hx hb d_X_letter_38 rfl (lv_at hl 3 rfl) ?_
          refine lv_aload_n hx hb d_X_letter_39 rfl (lv_at hl 0 rfl) ?_
          refine va_getN (D := D) (ci := 0) (v := .int (nI ((x 11).1 7))) (C := R_C) (T := F_C) (N := 11) hx hb hT in_C hown hK hP 32 rfl rfl 7 (by decide) (va_Nw.use rfl (hN.1 _ nf_103)) (fun _ h9 => h9) rfl d_X_letter_40 ?_
          refine lv_icmp_ge (tgt := 55) hx hb d_X_letter_43 (by decide) (fun h9 => ?_) (fun h9 => ?_)
          · have hF := it_p hF h9
            refine lv_iconst (v := (-1)) hx hb d_X_letter_55 (by decide) ?_
            obtain rfl := Option.some.inj hF
            exact kR _ _ _ _ d_X_letter_56 rfl hP hD hS
          · have hF := it_n hF h9
            obtain ⟨b10, hF⟩ := ss_s hF
            have hl : lv_has ls 4 [(3, .ref (ad 32)), (0, .ref (ad 0)), (1, .int (nI 0)), (2, .int (nI v2.toNatClampNeg))] := by rw [nI_co b10]; exact hl
            refine lv_aload_n hx hb d_X_letter_46 rfl (lv_at hl 0 rfl) ?_
            refine va_getN (D := D) (ci := 0) (v := .ref ((x 11).1 9)) (C := R_C) (T := F_C) (N := 11) hx hb hT in_C hown hK hP 32 rfl rfl 9 (by decide) (va_Nw.use rfl (hN.1 _ nf_108)) (fun _ h9 => h9) rfl d_X_letter_47 ?_
            refine lv_iload_n hx hb d_X_letter_50 rfl (lv_at hl 3 rfl) ?_
            obtain ⟨b11, hF⟩ := ss_s hF
            refine ln_ald hx hb hK hP 34 0 rfl rfl b11 (by decide) d_X_letter_51 ?_
            refine lv_goto (tgt := 56) hx hb d_X_letter_52 (by decide) ?_
            obtain rfl := Option.some.inj hF
            exact kR _ _ _ _ d_X_letter_56 rfl hP hD hS
      · have hF := it_n hF h7
        refine lv_iconst (v := (-1)) hx hb d_X_letter_22 (by decide) ?_
        obtain rfl := Option.some.inj hF
        exact kR _ _ _ _ d_X_letter_23 rfl hP hD hS
    have hF := it_n hF h5
    by_cases h12 : v1 = nI 1
    · have hF := it_p hF h12
      rw [h12] at hl ⊢
      refine ln_rald hx hb hK hP 31 3 rfl rfl (by decide) (by decide) (ad 33) rfl d_X_letter_15 ?_
      refine va_getN (D := D) (ci := 0) (v := .int (nI ((x 12).1 10))) (C := R_C) (T := F_C) (N := 11) hx hb hT in_C hown hK hP 35 rfl rfl 10 (by decide) (va_Nw.use rfl (hN.1 _ nf_110)) (fun _ h9 => h9) rfl d_X_letter_16 ?_
      obtain ⟨b13, hF⟩ := ss_s hF
      refine ln_if_ne hx hb b13 24 d_X_letter_19 (by decide) (fun h14 => ?_) (fun h14 => ?_)
      · have hF := it_p hF h14
        refine lv_aload_n hx hb d_X_letter_24 rfl (lv_at hl 0 rfl) ?_
        refine va_get (D := D) (ci := 5) (v := .ref (ad 29)) (C := R_X) (T := F_X) (N := 8) hx hb hT in_X hown hK hP 0 rfl rfl 3 (by decide) (hT _ wd_167) (fun _ h9 => h9) rfl d_X_letter_25 ?_
        refine va_getN (D := D) (ci := 2) (v := .ref (ad 30)) (C := R_R) (T := F_R) (N := 4) hx hb hT in_R hown hK hP 29 rfl rfl 0 (by decide) (va_Nw.use rfl (hN.1 _ nf_135)) (fun _ h9 => h9) rfl d_X_letter_28 ?_
        refine lv_iload_n hx hb d_X_letter_31 rfl (lv_at hl 1 rfl) ?_
        refine ln_rald hx hb hK hP 31 3 rfl rfl (by decide) (by decide) (ad 33) rfl d_X_letter_32 ?_
        refine lv_astore_n hx hb d_X_letter_33 rfl hl (by decide) rfl (fun ls hl => ?_)
        replace hl : lv_has ls 4 [(3, .ref (ad 33)), (0, .ref (ad 0)), (1, .int (nI 1)), (2, .int v2)] := hl
        refine lv_iload_n hx hb d_X_letter_34 rfl (lv_at hl 3 rfl) ?_
        refine lv_if_lt (tgt := 55) hx hb d_X_letter_35 (by decide) (fun h15 => ?_) (fun h15 => ?_)
        · have hF := it_p hF h15
          refine lv_iconst (v := (-1)) hx hb d_X_letter_55 (by decide) ?_
          obtain rfl := Option.some.inj hF
          exact kR _ _ _ _ d_X_letter_56 rfl hP hD hS
        · have hF := it_n hF h15
          refine lv_iload_n hx hb d_X_letter_38 rfl (lv_at hl 3 rfl) ?_
          refine lv_aload_n hx hb d_X_letter_39 rfl (lv_at hl 0 rfl) ?_
          refine va_getN (D := D) (ci := 0) (v := .int (nI ((x 12).1 7))) (C := R_C) (T := F_C) (N := 11) hx hb hT in_C hown hK hP 35 rfl rfl 7 (by decide) (va_Nw.use rfl (hN.1 _ nf_103)) (fun _ h9 => h9) rfl d_X_letter_40 ?_
          refine lv_icmp_ge (tgt := 55) hx hb d_X_letter_43 (by decide) (fun h16 => ?_) (fun h16 => ?_)
          · have hF := it_p hF h16
            refine lv_iconst (v := (-1)) hx hb d_X_letter_55 (by decide) ?_
            obtain rfl := Option.some.inj hF
            exact kR _ _ _ _ d_X_letter_56 rfl hP hD hS
          · have hF := it_n hF h16
            obtain ⟨b17, hF⟩ := ss_s hF
            have hl : lv_has ls 4 [(3, .ref (ad 33)), (0, .ref (ad 0)), (1, .int (nI 1)), (2, .int (nI v2.toNatClampNeg))] := by rw [nI_co b17]; exact hl
            refine lv_aload_n hx hb d_X_letter_46 rfl (lv_at hl 0 rfl) ?_
            refine va_getN (D := D) (ci := 0) (v := .ref ((x 12).1 9)) (C := R_C) (T := F_C) (N := 11) hx hb hT in_C hown hK hP 35 rfl rfl 9 (by decide) (va_Nw.use rfl (hN.1 _ nf_108)) (fun _ h9 => h9) rfl d_X_letter_47 ?_
            refine lv_iload_n hx hb d_X_letter_50 rfl (lv_at hl 3 rfl) ?_
            obtain ⟨b18, hF⟩ := ss_s hF
            refine ln_ald hx hb hK hP 37 0 rfl rfl b18 (by decide) d_X_letter_51 ?_
            refine lv_goto (tgt := 56) hx hb d_X_letter_52 (by decide) ?_
            obtain rfl := Option.some.inj hF
            exact kR _ _ _ _ d_X_letter_56 rfl hP hD hS
      · have hF := it_n hF h14
        refine lv_iconst (v := (-1)) hx hb d_X_letter_22 (by decide) ?_
        obtain rfl := Option.some.inj hF
        exact kR _ _ _ _ d_X_letter_23 rfl hP hD hS
    have hF := it_n hF h12
    by_cases h19 : v1 = nI 2
    · have hF := it_p hF h19
      rw [h19] at hl ⊢
      refine ln_rald hx hb hK hP 31 3 rfl rfl (by decide) (by decide) (ad 34) rfl d_X_letter_15 ?_
      refine va_getN (D := D) (ci := 0) (v := .int (nI ((x 13).1 10))) (C := R_C) (T := F_C) (N := 11) hx hb hT in_C hown hK hP 38 rfl rfl 10 (by decide) (va_Nw.use rfl (hN.1 _ nf_110)) (fun _ h9 => h9) rfl d_X_letter_16 ?_
      obtain ⟨b20, hF⟩ := ss_s hF
      refine ln_if_ne hx hb b20 24 d_X_letter_19 (by decide) (fun h21 => ?_) (fun h21 => ?_)
      · have hF := it_p hF h21
        refine lv_aload_n hx hb d_X_letter_24 rfl (lv_at hl 0 rfl) ?_
        refine va_get (D := D) (ci := 5) (v := .ref (ad 29)) (C := R_X) (T := F_X) (N := 8) hx hb hT in_X hown hK hP 0 rfl rfl 3 (by decide) (hT _ wd_167) (fun _ h9 => h9) rfl d_X_letter_25 ?_
        refine va_getN (D := D) (ci := 2) (v := .ref (ad 30)) (C := R_R) (T := F_R) (N := 4) hx hb hT in_R hown hK hP 29 rfl rfl 0 (by decide) (va_Nw.use rfl (hN.1 _ nf_135)) (fun _ h9 => h9) rfl d_X_letter_28 ?_
        refine lv_iload_n hx hb d_X_letter_31 rfl (lv_at hl 1 rfl) ?_
        refine ln_rald hx hb hK hP 31 3 rfl rfl (by decide) (by decide) (ad 34) rfl d_X_letter_32 ?_
        refine lv_astore_n hx hb d_X_letter_33 rfl hl (by decide) rfl (fun ls hl => ?_)
        replace hl : lv_has ls 4 [(3, .ref (ad 34)), (0, .ref (ad 0)), (1, .int (nI 2)), (2, .int v2)] := hl
        refine lv_iload_n hx hb d_X_letter_34 rfl (lv_at hl 3 rfl) ?_
        refine lv_if_lt (tgt := 55) hx hb d_X_letter_35 (by decide) (fun h22 => ?_) (fun h22 => ?_)
        · have hF := it_p hF h22
          refine lv_iconst (v := (-1)) hx hb d_X_letter_55 (by decide) ?_
          obtain rfl := Option.some.inj hF
          exact kR _ _ _ _ d_X_letter_56 rfl hP hD hS
        · have hF := it_n hF h22
          refine lv_iload_n hx hb d_X_letter_38 rfl (lv_at hl 3 rfl) ?_
          refine lv_aload_n hx hb d_X_letter_39 rfl (lv_at hl 0 rfl) ?_
          refine va_getN (D := D) (ci := 0) (v := .int (nI ((x 13).1 7))) (C := R_C) (T := F_C) (N := 11) hx hb hT in_C hown hK hP 38 rfl rfl 7 (by decide) (va_Nw.use rfl (hN.1 _ nf_103)) (fun _ h9 => h9) rfl d_X_letter_40 ?_
          refine lv_icmp_ge (tgt := 55) hx hb d_X_letter_43 (by decide) (fun h23 => ?_) (fun h23 => ?_)
          · have hF := it_p hF h23
            refine lv_iconst (v := (-1)) hx hb d_X_letter_55 (by decide) ?_
            obtain rfl := Option.some.inj hF
            exact kR _ _ _ _ d_X_letter_56 rfl hP hD hS
          · have hF := it_n hF h23
            obtain ⟨b24, hF⟩ := ss_s hF
            have hl : lv_has ls 4 [(3, .ref (ad 34)), (0, .ref (ad 0)), (1, .int (nI 2)), (2, .int (nI v2.toNatClampNeg))] := by rw [nI_co b24]; exact hl
            refine lv_aload_n hx hb d_X_letter_46 rfl (lv_at hl 0 rfl) ?_
            refine va_getN (D := D) (ci := 0) (v := .ref ((x 13).1 9)) (C := R_C) (T := F_C) (N := 11) hx hb hT in_C hown hK hP 38 rfl rfl 9 (by decide) (va_Nw.use rfl (hN.1 _ nf_108)) (fun _ h9 => h9) rfl d_X_letter_47 ?_
            refine lv_iload_n hx hb d_X_letter_50 rfl (lv_at hl 3 rfl) ?_
            obtain ⟨b25, hF⟩ := ss_s hF
            refine ln_ald hx hb hK hP 40 0 rfl rfl b25 (by decide) d_X_letter_51 ?_
            refine lv_goto (tgt := 56) hx hb d_X_letter_52 (by decide) ?_
            obtain rfl := Option.some.inj hF
            exact kR _ _ _ _ d_X_letter_56 rfl hP hD hS
      · have hF := it_n hF h21
        refine lv_iconst (v := (-1)) hx hb d_X_letter_22 (by decide) ?_
        obtain rfl := Option.some.inj hF
        exact kR _ _ _ _ d_X_letter_23 rfl hP hD hS
    have hF := it_n hF h19
    cases hF
