def fP_clear_L2  : Nat → Nat → ST → Option (Nat × ST)
  | 0, _, _ => none
  | fu + 1, i1, u2 => ss (i1 < 2147483648) ((if 16 ≤ i1 then some (i1, u2) else ss (i1 < 16) (fP_clear_L2 fu (i1 + 1) (sA u2 0 (va_up (u2.2 0) i1 255)))))
def fP_clear (k : ST)  : Option (ST) := ob (fP_clear_L2  100 0 k) (fun o3 => some (sI o3.2 1 0))
abbrev rm_P_clear : Room := { frames := 0, cells := 0, slots := 0, locals := 0 }
set_option maxHeartbeats 4000000 in
set_option maxRecDepth 100000 in
theorem cP_clear (l : Launch) (D : va_G) (ci : Nat → ClassId) (h : Nat) (b : Nat) (k : ST)  (o : ST) (hF : fP_clear k = some o) : CtV l y_P_clear w_P_clear rm_P_clear D vwCl (tyC ci) [.ref h] [(h, .inr (1, [.ref b, .int (nI (k.1 1))])), (b, .inl (ci 0, 16, .inl (nF (k.2 0))))] [(h, .inr (1, [.ref b, .int (nI (o.1 1))])), (b, .inl (ci 0, 16, .inl (nF (o.2 0))))] := by
  refine ct_v (cc := b_P_clear) (maxL := 2) (plainFor_of_name (by decide)) rfl (Nat.le_of_ble_eq_true rfl) (fun p9 e9 s9 m9 args9 be9 me9 c9 A9 Q9 ls H0 hx hb hml hts hown hK hN hl hP hD hS hA kR => ?_)
  replace hl : lv_has ls 2 [(0, .ref h)] := hl
  replace hP : va_P D vwCl [(h, .inr (1, [.ref b, .int (nI (k.1 1))])), (b, .inl (ci 0, 16, .inl (nF (k.2 0))))] H0 := hP
  replace hD : va_D A9 [(h, .inr (1, [.ref b, .int (nI (k.1 1))])), (b, .inl (ci 0, 16, .inl (nF (k.2 0))))] := hD
  replace hown : s9.vm.findClass R_P = some m9.cls := hown
  have hT : ∀ w ∈ lw_ok, w.before args9 s9 = true := fun w h => hts w (List.mem_cons_of_mem _ h)
  rw [fP_clear] at hF
  generalize hH : H0 = H at hP ⊢
  replace hS : va_S A9 H0 H [] := by rw [← hH]; exact hS
  clear hH
  generalize ([] : List Loc) = locs at hS ⊢
  refine lv_iconst (v := nI 0) hx hb d_P_clear_0 (by decide) ?_
  refine lv_istore_n hx hb d_P_clear_1 rfl hl (by decide) rfl (fun ls hl => ?_)
  replace hl : lv_has ls 2 [(1, .int (nI 0)), (0, .ref h)] := hl
  have L9 : ∀ (fu : Nat) (i1 : Nat) (u2 : ST) (o3 : Nat × ST) (ls : Array Slot) (H : Heap) (locs : List Loc), fP_clear_L2  fu i1 u2 = some o3 → lv_has ls 2 [(0, .ref h), (1, .int (nI i1))] → va_P D vwCl [(h, .inr (1, [.ref b, .int (nI (u2.1 1))])), (b, .inl (ci 0, 16, .inl (nF (u2.2 0))))] H → va_D A9 [(h, .inr (1, [.ref b, .int (nI (u2.1 1))])), (b, .inl (ci 0, 16, .inl (nF (u2.2 0))))] → va_S A9 H0 H locs → (∀ (ls : Array Slot) (H : Heap) (locs : List Loc), lv_has ls 2 [(0, .ref h), (1, .int (nI o3.1))] → va_P D vwCl [(h, .inr (1, [.ref b, .int (nI (o3.2.1 1))])), (b, .inl (ci 0, 16, .inl (nF (o3.2.2 0))))] H → va_D A9 [(h, .inr (1, [.ref b, .int (nI (o3.2.1 1))])), (b, .inl (ci 0, 16, .inl (nF (o3.2.2 0))))] → va_S A9 H0 H locs → W p9 l e9 rm_P_clear s9 m9 args9 be9 me9 c9 H locs 0 0 Q9 (F0 m9 23 ls [])) → W p9 l e9 rm_P_clear s9 m9 args9 be9 me9 c9 H locs 0 0 Q9 (F0 m9 2 ls []) := by
    intro fu
    induction fu with
    | zero => intro i1 u2 o3 ls H locs hF; rw [fP_clear_L2] at hF; cases hF
    | succ fu ih4 =>
      intro i1 u2 o3 ls H locs hF hl hP hD hS k5
      rw [fP_clear_L2] at hF
      refine lv_iload_n hx hb d_P_clear_2 rfl (lv_at hl 1 rfl) ?_
      refine lv_bipush (v := nI 16) hx hb d_P_clear_3 (by decide) ?_
      obtain ⟨b6, hF⟩ := ss_s hF
      refine ln_icmp_ge hx hb b6 (by decide) 23 d_P_clear_5 (by decide) (fun h7 => ?_) (fun h7 => ?_)
      · have hF := it_p hF h7
        obtain rfl := Option.some.inj hF
        have hl := lv_sub hl [0, 1] rfl
        exact k5 _ _ _ hl hP hD hS
      · have hF := it_n hF h7
        refine lv_aload_n hx hb d_P_clear_8 rfl (lv_at hl 0 rfl) ?_
        refine va_get (D := D) (ci := 1) (v := .ref b) (C := R_P) (T := F_P) (N := 2) hx hb hT in_P hown hK hP 0 rfl rfl 0 (by decide) (hT _ wd_157) (fun _ h9 => h9) rfl d_P_clear_9 ?_
        refine lv_iload_n hx hb d_P_clear_12 rfl (lv_at hl 1 rfl) ?_
        refine lv_sipush (v := nI 255) hx hb d_P_clear_13 (by decide) ?_
        obtain ⟨b8, hF⟩ := ss_s hF
        refine ln_ast hx hb hK hP hD hS 1 0 rfl rfl b8 (by decide) d_P_clear_16 (fun H locs hP hD hS => ?_)
        replace hP : va_P D vwCl [(h, .inr (1, [.ref b, .int (nI (u2.1 1))])), (b, .inl (ci 0, 16, .inl (nF (va_up (u2.2 0) i1 255))))] H := hP
        replace hD : va_D A9 [(h, .inr (1, [.ref b, .int (nI (u2.1 1))])), (b, .inl (ci 0, 16, .inl (nF (va_up (u2.2 0) i1 255))))] := hD
        refine ln_iinc (k := 1) (y := i1 + 1) hx hb d_P_clear_17 hl rfl (nI_inc _) (by decide) rfl (fun ls hl => ?_)
        replace hl : lv_has ls 2 [(1, .int (nI (i1 + 1))), (0, .ref h)] := hl
        refine lv_goto (tgt := 2) hx hb d_P_clear_20 (by decide) ?_
        have hl := lv_sub hl [1, 0] rfl
        exact ih4 _ _ _ _ _ _ hF hl hP hD hS k5
  obtain ⟨o3, g10, hF⟩ := ob_s hF
  have hl := lv_sub hl [1, 0] rfl
  refine L9 _ _ _ _ _ _ _ g10 hl hP hD hS (fun ls H locs hl hP hD hS => ?_)
  refine lv_aload_n hx hb d_P_clear_23 rfl (lv_at hl 0 rfl) ?_
  refine lv_iconst (v := nI 0) hx hb d_P_clear_24 (by decide) ?_
  refine va_put (D := D) (ci := 1) (v := .int (nI 0)) (ty := .int) (C := R_P) (T := F_P) (N := 2) hx hb hT in_P t_P ty_P nm_P hown hK hP hD hS 0 rfl rfl 1 (by decide) (hT _ wd_158) (fun _ h9 => h9) rfl (by decide +kernel) rfl rfl (Nat.le_of_ble_eq_true rfl) d_P_clear_25 (fun H locs hP hD hS => ?_)
  replace hP : va_P D vwCl [(h, .inr (1, [.ref b, .int (nI 0)])), (b, .inl (ci 0, 16, .inl (nF (o3.2.2 0))))] H := hP
  replace hD : va_D A9 [(h, .inr (1, [.ref b, .int (nI 0)])), (b, .inl (ci 0, 16, .inl (nF (o3.2.2 0))))] := hD
  obtain rfl := Option.some.inj hF
  exact kR _ _ _ _ d_P_clear_28 hP hD hS
def fP_put (k : ST) (x : Nat) : Option (ST) := ss ((k.1 1) < 2147483648) ((if 16 ≤ (k.1 1) then some k else ss ((k.1 1) < 16) (some (sA (sI k 1 ((k.1 1) + 1)) 0 (va_up (k.2 0) (k.1 1) (x &&& 255))))))
abbrev rm_P_put : Room := { frames := 0, cells := 0, slots := 0, locals := 0 }
set_option maxHeartbeats 4000000 in
set_option maxRecDepth 100000 in
theorem cP_put (l : Launch) (D : va_G) (ci : Nat → ClassId) (h : Nat) (b : Nat) (k : ST) (x : Nat) (o : ST) (hF : fP_put k x = some o) : CtV l y_P_put w_P_put rm_P_put D vwCl (tyC ci) [.ref h, .int (nI x)] [(h, .inr (1, [.ref b, .int (nI (k.1 1))])), (b, .inl (ci 0, 16, .inl (nF (k.2 0))))] [(h, .inr (1, [.ref b, .int (nI (o.1 1))])), (b, .inl (ci 0, 16, .inl (nF (o.2 0))))] := by
  refine ct_v (cc := b_P_put) (maxL := 2) (plainFor_of_name (by decide)) rfl (Nat.le_of_ble_eq_true rfl) (fun p9 e9 s9 m9 args9 be9 me9 c9 A9 Q9 ls H0 hx hb hml hts hown hK hN hl hP hD hS hA kR => ?_)
  replace hl : lv_has ls 2 [(0, .ref h), (1, .int (nI x))] := hl
  replace hP : va_P D vwCl [(h, .inr (1, [.ref b, .int (nI (k.1 1))])), (b, .inl (ci 0, 16, .inl (nF (k.2 0))))] H0 := hP
  replace hD : va_D A9 [(h, .inr (1, [.ref b, .int (nI (k.1 1))])), (b, .inl (ci 0, 16, .inl (nF (k.2 0))))] := hD
  replace hown : s9.vm.findClass R_P = some m9.cls := hown
  have hT : ∀ w ∈ lw_ok, w.before args9 s9 = true := fun w h => hts w (List.mem_cons_of_mem _ h)
  rw [fP_put] at hF
  generalize hH : H0 = H at hP ⊢
  replace hS : va_S A9 H0 H [] := by rw [← hH]; exact hS
  clear hH
  generalize ([] : List Loc) = locs at hS ⊢
  refine lv_aload_n hx hb d_P_put_0 rfl (lv_at hl 0 rfl) ?_
  refine va_get (D := D) (ci := 1) (v := .int (nI (k.1 1))) (C := R_P) (T := F_P) (N := 2) hx hb hT in_P hown hK hP 0 rfl rfl 1 (by decide) (hT _ wd_158) (fun _ h9 => h9) rfl d_P_put_1 ?_
  refine lv_bipush (v := nI 16) hx hb d_P_put_4 (by decide) ?_
  obtain ⟨b1, hF⟩ := ss_s hF
  refine ln_icmp_ge hx hb b1 (by decide) 33 d_P_put_6 (by decide) (fun h2 => ?_) (fun h2 => ?_)
  · have hF := it_p hF h2
    obtain rfl := Option.some.inj hF
    exact kR _ _ _ _ d_P_put_33 hP hD hS
  · have hF := it_n hF h2
    refine lv_aload_n hx hb d_P_put_9 rfl (lv_at hl 0 rfl) ?_
    refine va_get (D := D) (ci := 1) (v := .ref b) (C := R_P) (T := F_P) (N := 2) hx hb hT in_P hown hK hP 0 rfl rfl 0 (by decide) (hT _ wd_157) (fun _ h9 => h9) rfl d_P_put_10 ?_
    refine lv_aload_n hx hb d_P_put_13 rfl (lv_at hl 0 rfl) ?_
    refine va_get (D := D) (ci := 1) (v := .int (nI (k.1 1))) (C := R_P) (T := F_P) (N := 2) hx hb hT in_P hown hK hP 0 rfl rfl 1 (by decide) (hT _ wd_158) (fun _ h9 => h9) rfl d_P_put_14 ?_
    refine lv_iload_n hx hb d_P_put_17 rfl (lv_at hl 1 rfl) ?_
    refine lv_sipush (v := nI 255) hx hb d_P_put_18 (by decide) ?_
    refine ln_iand hx hb d_P_put_21 ?_
    obtain ⟨b3, hF⟩ := ss_s hF
    refine ln_ast hx hb hK hP hD hS 1 0 rfl rfl b3 (by decide) d_P_put_22 (fun H locs hP hD hS => ?_)
    replace hP : va_P D vwCl [(h, .inr (1, [.ref b, .int (nI (k.1 1))])), (b, .inl (ci 0, 16, .inl (nF (va_up (k.2 0) (k.1 1) (x &&& 255)))))] H := hP
    replace hD : va_D A9 [(h, .inr (1, [.ref b, .int (nI (k.1 1))])), (b, .inl (ci 0, 16, .inl (nF (va_up (k.2 0) (k.1 1) (x &&& 255)))))] := hD
    refine lv_aload_n hx hb d_P_put_23 rfl (lv_at hl 0 rfl) ?_
    refine lv_dup hx hb d_P_put_24 rfl ?_
    refine va_get (D := D) (ci := 1) (v := .int (nI (k.1 1))) (C := R_P) (T := F_P) (N := 2) hx hb hT in_P hown hK hP 0 rfl rfl 1 (by decide) (hT _ wd_158) (fun _ h9 => h9) rfl d_P_put_25 ?_
    refine lv_iconst (v := nI 1) hx hb d_P_put_28 (by decide) ?_
    refine ln_iadd hx hb d_P_put_29 ?_
    refine va_put (D := D) (ci := 1) (v := .int (nI ((k.1 1) + 1))) (ty := .int) (C := R_P) (T := F_P) (N := 2) hx hb hT in_P t_P ty_P nm_P hown hK hP hD hS 0 rfl rfl 1 (by decide) (hT _ wd_158) (fun _ h9 => h9) rfl (by decide +kernel) rfl rfl (Nat.le_of_ble_eq_true rfl) d_P_put_30 (fun H locs hP hD hS => ?_)
    replace hP : va_P D vwCl [(h, .inr (1, [.ref b, .int (nI ((k.1 1) + 1))])), (b, .inl (ci 0, 16, .inl (nF (va_up (k.2 0) (k.1 1) (x &&& 255)))))] H := hP
    replace hD : va_D A9 [(h, .inr (1, [.ref b, .int (nI ((k.1 1) + 1))])), (b, .inl (ci 0, 16, .inl (nF (va_up (k.2 0) (k.1 1) (x &&& 255)))))] := hD
    obtain rfl := Option.some.inj hF
    exact kR _ _ _ _ d_P_put_33 hP hD hS
def fP_putTime (k : ST) (x : Nat) : Option (ST) := ss (x < 2147483648) (ob (fP_put k (x / 256)) (fun r2 => ob (fP_put r2 x) (fun r4 => some r4)))
abbrev rm_P_putTime : Room := { frames := 1, cells := 0, slots := 0, locals := 21 }
set_option maxHeartbeats 4000000 in
set_option maxRecDepth 100000 in
theorem cP_putTime (l : Launch) (D : va_G) (ci : Nat → ClassId) (h : Nat) (b : Nat) (k : ST) (x : Nat) (o : ST) (hF : fP_putTime k x = some o) : CtV l y_P_putTime w_P_putTime rm_P_putTime D vwCl (tyC ci) [.ref h, .int (nI x)] [(h, .inr (1, [.ref b, .int (nI (k.1 1))])), (b, .inl (ci 0, 16, .inl (nF (k.2 0))))] [(h, .inr (1, [.ref b, .int (nI (o.1 1))])), (b, .inl (ci 0, 16, .inl (nF (o.2 0))))] := by
  refine ct_v (cc := b_P_putTime) (maxL := 2) (plainFor_of_name (by decide)) rfl (Nat.le_of_ble_eq_true rfl) (fun p9 e9 s9 m9 args9 be9 me9 c9 A9 Q9 ls H0 hx hb hml hts hown hK hN hl hP hD hS hA kR => ?_)
  replace hl : lv_has ls 2 [(0, .ref h), (1, .int (nI x))] := hl
  replace hP : va_P D vwCl [(h, .inr (1, [.ref b, .int (nI (k.1 1))])), (b, .inl (ci 0, 16, .inl (nF (k.2 0))))] H0 := hP
  replace hD : va_D A9 [(h, .inr (1, [.ref b, .int (nI (k.1 1))])), (b, .inl (ci 0, 16, .inl (nF (k.2 0))))] := hD
  replace hown : s9.vm.findClass R_P = some m9.cls := hown
  have hT : ∀ w ∈ lw_ok, w.before args9 s9 = true := fun w h => hts w (List.mem_cons_of_mem _ h)
  rw [fP_putTime] at hF
  generalize hH : H0 = H at hP ⊢
  replace hS : va_S A9 H0 H [] := by rw [← hH]; exact hS
  clear hH
  generalize ([] : List Loc) = locs at hS ⊢
  refine lv_aload_n hx hb d_P_putTime_0 rfl (lv_at hl 0 rfl) ?_
  refine lv_iload_n hx hb d_P_putTime_1 rfl (lv_at hl 1 rfl) ?_
  refine lv_sipush (v := nI 256) hx hb d_P_putTime_2 (by decide) ?_
  obtain ⟨b1, hF⟩ := ss_s hF
  refine ln_idiv hx hb b1 (by decide) (by decide) d_P_putTime_5 ?_
  obtain ⟨r2, g3, hF⟩ := ob_s hF
  refine ln_gov (va_runV (As := [.int (nI (x / 256))]) (rest := []) ⟨hx, hb, hml, hown, hT⟩ (cP_put l D ci h b k (x / 256) _ g3 H.size) (cw_V 1 hT wd_286 wd_7 wd_281 wd_279 wd_280 (by decide +kernel) (by decide) (by decide)) (ln_preV 0 hK hN hP rfl rfl (hP.subM [0, 1] rfl) (hD.sub [0, 1] (by decide) rfl)) rfl rfl hl.1 rfl (lv_room (Nat.le_of_ble_eq_true rfl)) d_P_putTime_6 ⟨Nat.zero_le _, Nat.zero_le _⟩) hP hD hS hA [0, 1] [] [0, 1] rfl rfl rfl (by decide) (by decide) (wn := [(h, .inr (1, [.ref b, .int (nI (r2.1 1))])), (b, .inl (ci 0, 16, .inl (nF (r2.2 0))))]) rfl (by decide) (fun H locs hP hD hS => ?_)
  refine lv_aload_n hx hb d_P_putTime_9 rfl (lv_at hl 0 rfl) ?_
  refine lv_iload_n hx hb d_P_putTime_10 rfl (lv_at hl 1 rfl) ?_
  obtain ⟨r4, g5, hF⟩ := ob_s hF
  refine ln_gov (va_runV (As := [.int (nI x)]) (rest := []) ⟨hx, hb, hml, hown, hT⟩ (cP_put l D ci h b r2 x _ g5 H.size) (cw_V 1 hT wd_286 wd_7 wd_281 wd_279 wd_280 (by decide +kernel) (by decide) (by decide)) (ln_preV 0 hK hN hP rfl rfl (hP.subM [0, 1] rfl) (hD.sub [0, 1] (by decide) rfl)) rfl rfl hl.1 rfl (lv_room (Nat.le_of_ble_eq_true rfl)) d_P_putTime_11 ⟨Nat.zero_le _, Nat.zero_le _⟩) hP hD hS hA [0, 1] [] [0, 1] rfl rfl rfl (by decide) (by decide) (wn := [(h, .inr (1, [.ref b, .int (nI (r4.1 1))])), (b, .inl (ci 0, 16, .inl (nF (r4.2 0))))]) rfl (by decide) (fun H locs hP hD hS => ?_)
  obtain rfl := Option.some.inj hF
  exact kR _ _ _ _ d_P_putTime_14 hP hD hS
def fP_byteAt (k : ST) (i : Nat) : Option (Nat) := ob (fisPacketIndexN i) (fun r1 => ss (r1 < 2147483648) ((if r1 = 0 then some 255 else ss (i < 16) (some ((k.2 0) i)))))
abbrev rm_P_byteAt : Room := { frames := 1, cells := 0, slots := 0, locals := 20 }
set_option maxHeartbeats 4000000 in
set_option maxRecDepth 100000 in
theorem cP_byteAt (l : Launch) (D : va_G) (ci : Nat → ClassId) (h : Nat) (b : Nat) (k : ST) (i : Nat) (o : Nat) (hF : fP_byteAt k i = some o) : CtI l y_P_byteAt w_P_byteAt rm_P_byteAt D vwCl (tyC ci) [.ref h, .int (nI i)] [(h, .inr (1, [.ref b, .int (nI (k.1 1))])), (b, .inl (ci 0, 16, .inl (nF (k.2 0))))] (nI o) [(h, .inr (1, [.ref b, .int (nI (k.1 1))])), (b, .inl (ci 0, 16, .inl (nF (k.2 0))))] := by
  refine ct_i (cc := b_P_byteAt) (maxL := 2) (plainFor_of_name (by decide)) rfl (Nat.le_of_ble_eq_true rfl) (fun p9 e9 s9 m9 args9 be9 me9 c9 A9 Q9 ls H0 hx hb hml hts hown hK hN hl hP hD hS hA kR => ?_)
  replace hl : lv_has ls 2 [(0, .ref h), (1, .int (nI i))] := hl
  replace hP : va_P D vwCl [(h, .inr (1, [.ref b, .int (nI (k.1 1))])), (b, .inl (ci 0, 16, .inl (nF (k.2 0))))] H0 := hP
  replace hD : va_D A9 [(h, .inr (1, [.ref b, .int (nI (k.1 1))])), (b, .inl (ci 0, 16, .inl (nF (k.2 0))))] := hD
  replace hown : s9.vm.findClass R_P = some m9.cls := hown
  have hT : ∀ w ∈ lw_ok, w.before args9 s9 = true := fun w h => hts w (List.mem_cons_of_mem _ h)
  rw [fP_byteAt] at hF
  generalize hH : H0 = H at hP ⊢
  replace hS : va_S A9 H0 H [] := by rw [← hH]; exact hS
  clear hH
  generalize ([] : List Loc) = locs at hS ⊢
  refine lv_iload_n hx hb d_P_byteAt_0 rfl (lv_at hl 1 rfl) ?_
  obtain ⟨r1, g2, hF⟩ := ob_s hF
  refine ln_goi (va_runSN (As := [.int (nI i)]) (rest := []) ⟨hx, hb, hml, hown, hT⟩ (cisPacketIndexN l D ci   i _ g2 H.size) (cw_SN 1 hT (hN.2 _ nn_308) wd_1 wd_310 wd_309 (by decide +kernel) (by decide) (by decide)) (ln_pre hK hN (hP.subM [] rfl) (hD.sub [] (by decide) rfl)) rfl rfl hl.1 rfl (lv_room (Nat.le_of_ble_eq_true rfl)) d_P_byteAt_1 ⟨Nat.zero_le _, Nat.zero_le _⟩) hP hD hS hA [] [0, 1] [0, 1] rfl rfl rfl (by decide) (by decide) (wn := [(h, .inr (1, [.ref b, .int (nI (k.1 1))])), (b, .inl (ci 0, 16, .inl (nF (k.2 0))))]) rfl (by decide) (fun H locs hP hD hS => ?_)
  obtain ⟨b3, hF⟩ := ss_s hF
  refine ln_if_eq hx hb b3 16 d_P_byteAt_4 (by decide) (fun h4 => ?_) (fun h4 => ?_)
  · have hF := it_p hF h4
    refine lv_sipush (v := nI 255) hx hb d_P_byteAt_16 (by decide) ?_
    obtain rfl := Option.some.inj hF
    exact kR _ _ _ _ d_P_byteAt_19 rfl hP hD hS
  · have hF := it_n hF h4
    refine lv_aload_n hx hb d_P_byteAt_7 rfl (lv_at hl 0 rfl) ?_
    refine va_get (D := D) (ci := 1) (v := .ref b) (C := R_P) (T := F_P) (N := 2) hx hb hT in_P hown hK hP 0 rfl rfl 0 (by decide) (hT _ wd_157) (fun _ h9 => h9) rfl d_P_byteAt_8 ?_
    refine lv_iload_n hx hb d_P_byteAt_11 rfl (lv_at hl 1 rfl) ?_
    obtain ⟨b5, hF⟩ := ss_s hF
    refine ln_ald hx hb hK hP 1 0 rfl rfl b5 (by decide) d_P_byteAt_12 ?_
    refine lv_goto (tgt := 19) hx hb d_P_byteAt_13 (by decide) ?_
    obtain rfl := Option.some.inj hF
    exact kR _ _ _ _ d_P_byteAt_19 rfl hP hD hS
def fP_timeAt (k : ST) (i : Nat) : Option (Nat) := ob (fP_byteAt k i) (fun r1 => ob (fP_byteAt k (i + 1)) (fun r3 => some ((r1 * 256) + r3)))
abbrev rm_P_timeAt : Room := { frames := 2, cells := 0, slots := 0, locals := 41 }
set_option maxHeartbeats 4000000 in
set_option maxRecDepth 100000 in
theorem cP_timeAt (l : Launch) (D : va_G) (ci : Nat → ClassId) (h : Nat) (b : Nat) (k : ST) (i : Nat) (o : Nat) (hF : fP_timeAt k i = some o) : CtI l y_P_timeAt w_P_timeAt rm_P_timeAt D vwCl (tyC ci) [.ref h, .int (nI i)] [(h, .inr (1, [.ref b, .int (nI (k.1 1))])), (b, .inl (ci 0, 16, .inl (nF (k.2 0))))] (nI o) [(h, .inr (1, [.ref b, .int (nI (k.1 1))])), (b, .inl (ci 0, 16, .inl (nF (k.2 0))))] := by
  refine ct_i (cc := b_P_timeAt) (maxL := 2) (plainFor_of_name (by decide)) rfl (Nat.le_of_ble_eq_true rfl) (fun p9 e9 s9 m9 args9 be9 me9 c9 A9 Q9 ls H0 hx hb hml hts hown hK hN hl hP hD hS hA kR => ?_)
  replace hl : lv_has ls 2 [(0, .ref h), (1, .int (nI i))] := hl
  replace hP : va_P D vwCl [(h, .inr (1, [.ref b, .int (nI (k.1 1))])), (b, .inl (ci 0, 16, .inl (nF (k.2 0))))] H0 := hP
  replace hD : va_D A9 [(h, .inr (1, [.ref b, .int (nI (k.1 1))])), (b, .inl (ci 0, 16, .inl (nF (k.2 0))))] := hD
  replace hown : s9.vm.findClass R_P = some m9.cls := hown
  have hT : ∀ w ∈ lw_ok, w.before args9 s9 = true := fun w h => hts w (List.mem_cons_of_mem _ h)
  rw [fP_timeAt] at hF
  generalize hH : H0 = H at hP ⊢
  replace hS : va_S A9 H0 H [] := by rw [← hH]; exact hS
  clear hH
  generalize ([] : List Loc) = locs at hS ⊢
  refine lv_aload_n hx hb d_P_timeAt_0 rfl (lv_at hl 0 rfl) ?_
  refine lv_iload_n hx hb d_P_timeAt_1 rfl (lv_at hl 1 rfl) ?_
  obtain ⟨r1, g2, hF⟩ := ob_s hF
  refine ln_goi (va_runV (As := [.int (nI i)]) (rest := []) ⟨hx, hb, hml, hown, hT⟩ (cP_byteAt l D ci h b k i _ g2 H.size) (cw_V 1 hT wd_320 wd_7 wd_307 wd_305 wd_306 (by decide +kernel) (by decide) (by decide)) (ln_preV 0 hK hN hP rfl rfl (hP.subM [0, 1] rfl) (hD.sub [0, 1] (by decide) rfl)) rfl rfl hl.1 rfl (lv_room (Nat.le_of_ble_eq_true rfl)) d_P_timeAt_2 ⟨Nat.zero_le _, Nat.zero_le _⟩) hP hD hS hA [0, 1] [] [0, 1] rfl rfl rfl (by decide) (by decide) (wn := [(h, .inr (1, [.ref b, .int (nI (k.1 1))])), (b, .inl (ci 0, 16, .inl (nF (k.2 0))))]) rfl (by decide) (fun H locs hP hD hS => ?_)
  refine lv_sipush (v := nI 256) hx hb d_P_timeAt_5 (by decide) ?_
  refine ln_imul hx hb d_P_timeAt_8 ?_
  refine lv_aload_n hx hb d_P_timeAt_9 rfl (lv_at hl 0 rfl) ?_
  refine lv_iload_n hx hb d_P_timeAt_10 rfl (lv_at hl 1 rfl) ?_
  refine lv_iconst (v := nI 1) hx hb d_P_timeAt_11 (by decide) ?_
  refine ln_iadd hx hb d_P_timeAt_12 ?_
  obtain ⟨r3, g4, hF⟩ := ob_s hF
  refine ln_goi (va_runV (As := [.int (nI (i + 1))]) (rest := [.int (nI (r1 * 256))]) ⟨hx, hb, hml, hown, hT⟩ (cP_byteAt l D ci h b k (i + 1) _ g4 H.size) (cw_V 1 hT wd_320 wd_7 wd_307 wd_305 wd_306 (by decide +kernel) (by decide) (by decide)) (ln_preV 0 hK hN hP rfl rfl (hP.subM [0, 1] rfl) (hD.sub [0, 1] (by decide) rfl)) rfl rfl hl.1 rfl (lv_room (Nat.le_of_ble_eq_true rfl)) d_P_timeAt_13 ⟨Nat.zero_le _, Nat.zero_le _⟩) hP hD hS hA [0, 1] [] [0, 1] rfl rfl rfl (by decide) (by decide) (wn := [(h, .inr (1, [.ref b, .int (nI (k.1 1))])), (b, .inl (ci 0, 16, .inl (nF (k.2 0))))]) rfl (by decide) (fun H locs hP hD hS => ?_)
  refine ln_iadd hx hb d_P_timeAt_16 ?_
  obtain rfl := Option.some.inj hF
  exact kR _ _ _ _ d_P_timeAt_17 rfl hP hD hS
def fP_copyFrom_L2 (k2 : ST) : Nat → Nat → ST → Option (Nat × ST)
  | 0, _, _ => none
  | fu + 1, i1, u2 => ss (i1 < 2147483648) ((if 16 ≤ i1 then some (i1, u2) else ss (i1 < 16) (fP_copyFrom_L2 k2 fu (i1 + 1) (sA u2 0 (va_up (u2.2 0) i1 ((k2.2 0) i1))))))
def fP_copyFrom (k : ST) (k2 : ST)  : Option (ST) := ob (fP_copyFrom_L2 k2 100 0 k) (fun o3 => some o3.2)
abbrev rm_P_copyFrom : Room := { frames := 0, cells := 0, slots := 0, locals := 0 }
set_option maxHeartbeats 4000000 in
set_option maxRecDepth 100000 in
theorem cP_copyFrom (l : Launch) (D : va_G) (ci : Nat → ClassId) (h : Nat) (b : Nat) (h2 : Nat) (b2 : Nat) (k : ST) (k2 : ST)  (o : ST) (hF : fP_copyFrom k k2 = some o) : CtV l y_P_copyFrom w_P_copyFrom rm_P_copyFrom D vwCl (tyC ci) [.ref h, .ref h2] [(h, .inr (1, [.ref b, .int (nI (k.1 1))])), (b, .inl (ci 0, 16, .inl (nF (k.2 0)))), (h2, .inr (1, [.ref b2, .int (nI (k2.1 1))])), (b2, .inl (ci 0, 16, .inl (nF (k2.2 0))))] [(h, .inr (1, [.ref b, .int (nI (o.1 1))])), (b, .inl (ci 0, 16, .inl (nF (o.2 0)))), (h2, .inr (1, [.ref b2, .int (nI (k2.1 1))])), (b2, .inl (ci 0, 16, .inl (nF (k2.2 0))))] := by
  refine ct_v (cc := b_P_copyFrom) (maxL := 3) (plainFor_of_name (by decide)) rfl (Nat.le_of_ble_eq_true rfl) (fun p9 e9 s9 m9 args9 be9 me9 c9 A9 Q9 ls H0 hx hb hml hts hown hK hN hl hP hD hS hA kR => ?_)
  replace hl : lv_has ls 3 [(0, .ref h), (1, .ref h2)] := hl
  replace hP : va_P D vwCl [(h, .inr (1, [.ref b, .int (nI (k.1 1))])), (b, .inl (ci 0, 16, .inl (nF (k.2 0)))), (h2, .inr (1, [.ref b2, .int (nI (k2.1 1))])), (b2, .inl (ci 0, 16, .inl (nF (k2.2 0))))] H0 := hP
  replace hD : va_D A9 [(h, .inr (1, [.ref b, .int (nI (k.1 1))])), (b, .inl (ci 0, 16, .inl (nF (k.2 0)))), (h2, .inr (1, [.ref b2, .int (nI (k2.1 1))])), (b2, .inl (ci 0, 16, .inl (nF (k2.2 0))))] := hD
  replace hown : s9.vm.findClass R_P = some m9.cls := hown
  have hT : ∀ w ∈ lw_ok, w.before args9 s9 = true := fun w h => hts w (List.mem_cons_of_mem _ h)
  rw [fP_copyFrom] at hF
  generalize hH : H0 = H at hP ⊢
  replace hS : va_S A9 H0 H [] := by rw [← hH]; exact hS
  clear hH
  generalize ([] : List Loc) = locs at hS ⊢
  refine lv_iconst (v := nI 0) hx hb d_P_copyFrom_0 (by decide) ?_
  refine lv_istore_n hx hb d_P_copyFrom_1 rfl hl (by decide) rfl (fun ls hl => ?_)
  replace hl : lv_has ls 3 [(2, .int (nI 0)), (0, .ref h), (1, .ref h2)] := hl
  have L9 : ∀ (fu : Nat) (i1 : Nat) (u2 : ST) (o3 : Nat × ST) (ls : Array Slot) (H : Heap) (locs : List Loc), fP_copyFrom_L2 k2 fu i1 u2 = some o3 → lv_has ls 3 [(0, .ref h), (1, .ref h2), (2, .int (nI i1))] → va_P D vwCl [(h, .inr (1, [.ref b, .int (nI (u2.1 1))])), (b, .inl (ci 0, 16, .inl (nF (u2.2 0)))), (h2, .inr (1, [.ref b2, .int (nI (k2.1 1))])), (b2, .inl (ci 0, 16, .inl (nF (k2.2 0))))] H → va_D A9 [(h, .inr (1, [.ref b, .int (nI (u2.1 1))])), (b, .inl (ci 0, 16, .inl (nF (u2.2 0)))), (h2, .inr (1, [.ref b2, .int (nI (k2.1 1))])), (b2, .inl (ci 0, 16, .inl (nF (k2.2 0))))] → va_S A9 H0 H locs → (∀ (ls : Array Slot) (H : Heap) (locs : List Loc), lv_has ls 3 [(0, .ref h), (1, .ref h2), (2, .int (nI o3.1))] → va_P D vwCl [(h, .inr (1, [.ref b, .int (nI (o3.2.1 1))])), (b, .inl (ci 0, 16, .inl (nF (o3.2.2 0)))), (h2, .inr (1, [.ref b2, .int (nI (k2.1 1))])), (b2, .inl (ci 0, 16, .inl (nF (k2.2 0))))] H → va_D A9 [(h, .inr (1, [.ref b, .int (nI (o3.2.1 1))])), (b, .inl (ci 0, 16, .inl (nF (o3.2.2 0)))), (h2, .inr (1, [.ref b2, .int (nI (k2.1 1))])), (b2, .inl (ci 0, 16, .inl (nF (k2.2 0))))] → va_S A9 H0 H locs → W p9 l e9 rm_P_copyFrom s9 m9 args9 be9 me9 c9 H locs 0 0 Q9 (F0 m9 26 ls [])) → W p9 l e9 rm_P_copyFrom s9 m9 args9 be9 me9 c9 H locs 0 0 Q9 (F0 m9 2 ls []) := by
    intro fu
    induction fu with
    | zero => intro i1 u2 o3 ls H locs hF; rw [fP_copyFrom_L2] at hF; cases hF
    | succ fu ih4 =>
      intro i1 u2 o3 ls H locs hF hl hP hD hS k5
      rw [fP_copyFrom_L2] at hF
      refine lv_iload_n hx hb d_P_copyFrom_2 rfl (lv_at hl 2 rfl) ?_
      refine lv_bipush (v := nI 16) hx hb d_P_copyFrom_3 (by decide) ?_
      obtain ⟨b6, hF⟩ := ss_s hF
      refine ln_icmp_ge hx hb b6 (by decide) 26 d_P_copyFrom_5 (by decide) (fun h7 => ?_) (fun h7 => ?_)
      · have hF := it_p hF h7
        obtain rfl := Option.some.inj hF
        have hl := lv_sub hl [0, 1, 2] rfl
        exact k5 _ _ _ hl hP hD hS
      · have hF := it_n hF h7
        refine lv_aload_n hx hb d_P_copyFrom_8 rfl (lv_at hl 0 rfl) ?_
        refine va_get (D := D) (ci := 1) (v := .ref b) (C := R_P) (T := F_P) (N := 2) hx hb hT in_P hown hK hP 0 rfl rfl 0 (by decide) (hT _ wd_157) (fun _ h9 => h9) rfl d_P_copyFrom_9 ?_
        refine lv_iload_n hx hb d_P_copyFrom_12 rfl (lv_at hl 2 rfl) ?_
        refine lv_aload_n hx hb d_P_copyFrom_13 rfl (lv_at hl 1 rfl) ?_
        refine va_get (D := D) (ci := 1) (v := .ref b2) (C := R_P) (T := F_P) (N := 2) hx hb hT in_P hown hK hP 2 rfl rfl 0 (by decide) (hT _ wd_157) (fun _ h9 => h9) rfl d_P_copyFrom_14 ?_
        refine lv_iload_n hx hb d_P_copyFrom_17 rfl (lv_at hl 2 rfl) ?_
        obtain ⟨b8, hF⟩ := ss_s hF
        refine ln_ald hx hb hK hP 3 0 rfl rfl b8 (by decide) d_P_copyFrom_18 ?_
        refine ln_ast hx hb hK hP hD hS 1 0 rfl rfl b8 (by decide) d_P_copyFrom_19 (fun H locs hP hD hS => ?_)
        replace hP : va_P D vwCl [(h, .inr (1, [.ref b, .int (nI (u2.1 1))])), (b, .inl (ci 0, 16, .inl (nF (va_up (u2.2 0) i1 ((k2.2 0) i1))))), (h2, .inr (1, [.ref b2, .int (nI (k2.1 1))])), (b2, .inl (ci 0, 16, .inl (nF (k2.2 0))))] H := hP
        replace hD : va_D A9 [(h, .inr (1, [.ref b, .int (nI (u2.1 1))])), (b, .inl (ci 0, 16, .inl (nF (va_up (u2.2 0) i1 ((k2.2 0) i1))))), (h2, .inr (1, [.ref b2, .int (nI (k2.1 1))])), (b2, .inl (ci 0, 16, .inl (nF (k2.2 0))))] := hD
        refine ln_iinc (k := 2) (y := i1 + 1) hx hb d_P_copyFrom_20 hl rfl (nI_inc _) (by decide) rfl (fun ls hl => ?_)
        replace hl : lv_has ls 3 [(2, .int (nI (i1 + 1))), (0, .ref h), (1, .ref h2)] := hl
        refine lv_goto (tgt := 2) hx hb d_P_copyFrom_23 (by decide) ?_
        have hl := lv_sub hl [1, 2, 0] rfl
        exact ih4 _ _ _ _ _ _ hF hl hP hD hS k5
  obtain ⟨o3, g10, hF⟩ := ob_s hF
  have hl := lv_sub hl [1, 2, 0] rfl
  refine L9 _ _ _ _ _ _ _ g10 hl hP hD hS (fun ls H locs hl hP hD hS => ?_)
  obtain rfl := Option.some.inj hF
  exact kR _ _ _ _ d_P_copyFrom_26 hP hD hS
def fP_flip (k : ST) (i : Nat) (x : Nat) : Option (ST) := ob (fisPacketIndexN i) (fun r1 => ss (r1 < 2147483648) ((if r1 = 0 then some k else ss (i < 16) (some (sA k 0 (va_up (k.2 0) i (((k.2 0) i) ^^^ x)))))))
abbrev rm_P_flip : Room := { frames := 1, cells := 0, slots := 0, locals := 20 }
set_option maxHeartbeats 4000000 in
set_option maxRecDepth 100000 in
theorem cP_flip (l : Launch) (D : va_G) (ci : Nat → ClassId) (h : Nat) (b : Nat) (k : ST) (i : Nat) (x : Nat) (o : ST) (hF : fP_flip k i x = some o) : CtV l y_P_flip w_P_flip rm_P_flip D vwCl (tyC ci) [.ref h, .int (nI i), .int (nI x)] [(h, .inr (1, [.ref b, .int (nI (k.1 1))])), (b, .inl (ci 0, 16, .inl (nF (k.2 0))))] [(h, .inr (1, [.ref b, .int (nI (o.1 1))])), (b, .inl (ci 0, 16, .inl (nF (o.2 0))))] := by
  refine ct_v (cc := b_P_flip) (maxL := 3) (plainFor_of_name (by decide)) rfl (Nat.le_of_ble_eq_true rfl) (fun p9 e9 s9 m9 args9 be9 me9 c9 A9 Q9 ls H0 hx hb hml hts hown hK hN hl hP hD hS hA kR => ?_)
  replace hl : lv_has ls 3 [(0, .ref h), (1, .int (nI i)), (2, .int (nI x))] := hl
  replace hP : va_P D vwCl [(h, .inr (1, [.ref b, .int (nI (k.1 1))])), (b, .inl (ci 0, 16, .inl (nF (k.2 0))))] H0 := hP
  replace hD : va_D A9 [(h, .inr (1, [.ref b, .int (nI (k.1 1))])), (b, .inl (ci 0, 16, .inl (nF (k.2 0))))] := hD
  replace hown : s9.vm.findClass R_P = some m9.cls := hown
  have hT : ∀ w ∈ lw_ok, w.before args9 s9 = true := fun w h => hts w (List.mem_cons_of_mem _ h)
  rw [fP_flip] at hF
  generalize hH : H0 = H at hP ⊢
  replace hS : va_S A9 H0 H [] := by rw [← hH]; exact hS
  clear hH
  generalize ([] : List Loc) = locs at hS ⊢
  refine lv_iload_n hx hb d_P_flip_0 rfl (lv_at hl 1 rfl) ?_
  obtain ⟨r1, g2, hF⟩ := ob_s hF
  refine ln_goi (va_runSN (As := [.int (nI i)]) (rest := []) ⟨hx, hb, hml, hown, hT⟩ (cisPacketIndexN l D ci   i _ g2 H.size) (cw_SN 1 hT (hN.2 _ nn_308) wd_1 wd_310 wd_309 (by decide +kernel) (by decide) (by decide)) (ln_pre hK hN (hP.subM [] rfl) (hD.sub [] (by decide) rfl)) rfl rfl hl.1 rfl (lv_room (Nat.le_of_ble_eq_true rfl)) d_P_flip_1 ⟨Nat.zero_le _, Nat.zero_le _⟩) hP hD hS hA [] [0, 1] [0, 1] rfl rfl rfl (by decide) (by decide) (wn := [(h, .inr (1, [.ref b, .int (nI (k.1 1))])), (b, .inl (ci 0, 16, .inl (nF (k.2 0))))]) rfl (by decide) (fun H locs hP hD hS => ?_)
  obtain ⟨b3, hF⟩ := ss_s hF
  refine ln_if_eq hx hb b3 17 d_P_flip_4 (by decide) (fun h4 => ?_) (fun h4 => ?_)
  · have hF := it_p hF h4
    obtain rfl := Option.some.inj hF
    exact kR _ _ _ _ d_P_flip_17 hP hD hS
  · have hF := it_n hF h4
    refine lv_aload_n hx hb d_P_flip_7 rfl (lv_at hl 0 rfl) ?_
    refine va_get (D := D) (ci := 1) (v := .ref b) (C := R_P) (T := F_P) (N := 2) hx hb hT in_P hown hK hP 0 rfl rfl 0 (by decide) (hT _ wd_157) (fun _ h9 => h9) rfl d_P_flip_8 ?_
    refine lv_iload_n hx hb d_P_flip_11 rfl (lv_at hl 1 rfl) ?_
    refine lv_dup2_11 hx hb d_P_flip_12 rfl rfl ?_
    obtain ⟨b5, hF⟩ := ss_s hF
    refine ln_ald hx hb hK hP 1 0 rfl rfl b5 (by decide) d_P_flip_13 ?_
    refine lv_iload_n hx hb d_P_flip_14 rfl (lv_at hl 2 rfl) ?_
    refine ln_ixor hx hb d_P_flip_15 ?_
    refine ln_ast hx hb hK hP hD hS 1 0 rfl rfl b5 (by decide) d_P_flip_16 (fun H locs hP hD hS => ?_)
    replace hP : va_P D vwCl [(h, .inr (1, [.ref b, .int (nI (k.1 1))])), (b, .inl (ci 0, 16, .inl (nF (va_up (k.2 0) i (((k.2 0) i) ^^^ x)))))] H := hP
    replace hD : va_D A9 [(h, .inr (1, [.ref b, .int (nI (k.1 1))])), (b, .inl (ci 0, 16, .inl (nF (va_up (k.2 0) i (((k.2 0) i) ^^^ x)))))] := hD
    obtain rfl := Option.some.inj hF
    exact kR _ _ _ _ d_P_flip_17 hP hD hS
