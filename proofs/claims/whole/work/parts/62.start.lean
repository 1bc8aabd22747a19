set_option maxHeartbeats 4000000 in
set_option maxRecDepth 100000 in
theorem whole_start {p : Program} {e : Env} {s : State} {m : MethodId} {below : List Frame} {meth : Method} {c : Code} (l : Launch) {b L : Nat} {xs : Nat → Int32} (hL : L ≤ 2562) (C0 : lw_At p s m meth c b L xs) : W p l e room_1 s m #[Value.ref b] below meth c s.heap [] 0 0 (lw_Z below #[Value.ref b] s) (entryFrame m ([Value.ref b] : List Value).toArray 4) := by
  obtain ⟨hx, hb, hr, hml, hown, hts, hX, hbl, hlocks, hgv⟩ := C0
  replace hown : s.vm.findClass R_L = some m.cls := hown
  have hT : ∀ w ∈ lw_ok, w.before #[Value.ref b] s = true := fun w h => hts w (List.mem_filter.mp h).1
  obtain ⟨D, ci, hK⟩ := law_K hts
  have hN := law_N hts
  have hO := law_O hts
  have hl := lv_entry ([.ref b]) (n := 4) (Nat.le_of_ble_eq_true rfl)
  rw [lg_entry_eq]
  generalize (lg_sl ([.ref b]) ++ List.replicate (4 - (lg_sl ([.ref b])).length) Slot.unset).toArray = ls at hl ⊢
  replace hl : lv_has ls 4 [(0, .ref b)] := hl
  have hbA : ¬ (fun q => s.heap.size ≤ q) b := by show ¬ s.heap.size ≤ b; omega
  have hA : ∀ q, s.heap.size ≤ q → (fun q => s.heap.size ≤ q) q := fun q h => h
  have hS : va_S (fun q => s.heap.size ≤ q) s.heap s.heap [] := va_S.rf
  have hP : va_P D vwCl [] s.heap := fun k q h => by simp at h
  have hD : va_D (fun q => s.heap.size ≤ q) ([] : va_W) := ⟨fun i j p q h => by simp at h, fun k q h => by simp at h⟩
  obtain ⟨v0, hv0⟩ : ∃ v, v = (if 0 < L then xs 0 else 0) := ⟨_, rfl⟩
  obtain ⟨v1, hv1⟩ : ∃ v, v = (if 1 < L then xs 1 else 0) := ⟨_, rfl⟩
  refine va_new (ci := 5) (fs := [.int (nI 0), .int (nI 0), .null, .null, .null, .null, .int (nI 0), .int (nI 0)]) (C := R_X) (T := F_X) (N := 8) hx hb hT in_X t_X ty_X hown (hT _ wd_9) (hT _ wd_10) (hT _ wd_1) hK hP hD hS hA rfl df_X (by decide) (by decide) d_L_law_0 (fun q1 H hP hD hS => ?_)
  replace hP : va_P D vwCl [(q1, .inr (5, [.int (nI 0), .int (nI 0), .null, .null, .null, .null, .int (nI 0), .int (nI 0)]))] H := hP
  replace hD : va_D (fun q => s.heap.size ≤ q) [(q1, .inr (5, [.int (nI 0), .int (nI 0), .null, .null, .null, .null, .int (nI 0), .int (nI 0)]))] := hD
  refine lv_dup hx hb d_L_law_3 rfl ?_
  refine lv_aload_n hx hb d_L_law_4 rfl (lv_at hl 0 rfl) ?_
  refine lv_iconst (v := nI 0) hx hb d_L_law_5 (by decide) ?_
  refine ln_cell hx hb hml hown hT hX hbl hbA hP hS hA (by omega) (by decide) hl.1 (Nat.le_of_ble_eq_true rfl) (by decide) (by decide) (by decide) (by decide) d_L_law_6 (fun H locs hP hS => ?_)
  rw [← hv0]
  refine lv_aload_n hx hb d_L_law_9 rfl (lv_at hl 0 rfl) ?_
  refine lv_iconst (v := nI 1) hx hb d_L_law_10 (by decide) ?_
  refine ln_cell hx hb hml hown hT hX hbl hbA hP hS hA (by omega) (by decide) hl.1 (Nat.le_of_ble_eq_true rfl) (by decide) (by decide) (by decide) (by decide) d_L_law_11 (fun H locs hP hS => ?_)
  rw [← hv1]
  refine ln_gon (va_runI (As := [.int v0, .int v1]) (rest := [.ref q1]) ⟨hx, hb, hml, hown, hT⟩ (cX_init l D ci q1 v0 v1 H.size) (cw_I 2 hT wd_11 wd_1 wd_13 wd_12 rfl (by decide +kernel) (by decide) (by decide)) (ln_preN hK hN hO (hP.subM [0] rfl) (hD.sub [0] (by decide) rfl)) rfl rfl hl.1 rfl (lv_room (Nat.le_of_ble_eq_true rfl)) d_L_law_14 ⟨by decide, by decide⟩) hP hD hS hA [0] [] rfl rfl rfl (by decide +kernel) (by decide +kernel) (fun ad H locs hu hP hD hS => ?_)
  replace hP : va_P D vwCl (wX ad ci (x0 (clN 1 14 v0) (clN 20 200 v1) ad)) H := hP
  replace hD : va_D (fun q => s.heap.size ≤ q) (wX ad ci (x0 (clN 1 14 v0) (clN 20 200 v1) ad)) := hD
  rw [← hu]
  refine lv_astore_n hx hb d_L_law_17 rfl hl (by decide) rfl (fun ls hl => ?_)
  replace hl : lv_has ls 4 [(1, .ref (ad 0)), (0, .ref b)] := hl
  refine va_new (ci := 6) (fs := [.int (nI 0), .int (nI 0), .int (nI 0), .null, .null, .null, .null, .null, .null, .null, .null, .null, .null, .int (nI 0), .null, .null, .int (nI 0), .int (nI 0), .null, .null, .null, .null, .null, .null, .null, .null, .null, .null, .null, .null]) (C := R_M) (T := F_M) (N := 30) hx hb hT in_M t_M ty_M hown (hT _ wd_427) (hT _ wd_428) (hT _ wd_8) hK hP hD hS hA rfl df_M (by decide) (by decide) d_L_law_18 (fun q2 H hP hD hS => ?_)
  replace hP : va_P D vwCl ((wX ad ci (x0 (clN 1 14 v0) (clN 20 200 v1) ad)) ++ [(q2, .inr (6, [.int (nI 0), .int (nI 0), .int (nI 0), .null, .null, .null, .null, .null, .null, .null, .null, .null, .null, .int (nI 0), .null, .null, .int (nI 0), .int (nI 0), .null, .null, .null, .null, .null, .null, .null, .null, .null, .null, .null, .null]))]) H := hP
  replace hD : va_D (fun q => s.heap.size ≤ q) ((wX ad ci (x0 (clN 1 14 v0) (clN 20 200 v1) ad)) ++ [(q2, .inr (6, [.int (nI 0), .int (nI 0), .int (nI 0), .null, .null, .null, .null, .null, .null, .null, .null, .null, .null, .int (nI 0), .null, .null, .int (nI 0), .int (nI 0), .null, .null, .null, .null, .null, .null, .null, .null, .null, .null, .null, .null]))]) := hD
  refine lv_dup hx hb d_L_law_21 rfl ?_
  refine lv_aload_n hx hb d_L_law_22 rfl (lv_at hl 1 rfl) ?_
  refine lv_iconst (v := nI 0) hx hb d_L_law_23 (by decide) ?_
  refine ln_cell hx hb hml hown hT hX hbl hbA hP hS hA (by omega) (by decide) hl.1 (Nat.le_of_ble_eq_true rfl) (by decide) (by decide) (by decide) (by decide) d_L_law_24 (fun H locs hP hS => ?_)
  rw [← hv0]
  refine lv_aload_n hx hb d_L_law_27 rfl (lv_at hl 1 rfl) ?_
  refine lv_iconst (v := nI 1) hx hb d_L_law_28 (by decide) ?_
  refine ln_cell hx hb hml hown hT hX hbl hbA hP hS hA (by omega) (by decide) hl.1 (Nat.le_of_ble_eq_true rfl) (by decide) (by decide) (by decide) (by decide) d_L_law_29 (fun H locs hP hS => ?_)
  rw [← hv1]
  refine ln_gon (va_runI (As := [.int v0, .int v1]) (rest := [.ref q2]) ⟨hx, hb, hml, hown, hT⟩ (cM_init l D ci q2 v0 v1 H.size) (cw_I 2 hT wd_429 wd_8 wd_431 wd_430 rfl (by decide +kernel) (by decide) (by decide)) (ln_preN hK hN hO (hP.subM [45] rfl) (hD.sub [45] (by decide) rfl)) rfl rfl hl.1 rfl (lv_room (Nat.le_of_ble_eq_true rfl)) d_L_law_32 ⟨by decide, by decide⟩) hP hD hS hA [45] [0, 1, 2, 3, 4, 5, 6, 7, 8, 9, 10, 11, 12, 13, 14, 15, 16, 17, 18, 19, 20, 21, 22, 23, 24, 25, 26, 27, 28, 29, 30, 31, 32, 33, 34, 35, 36, 37, 38, 39, 40, 41, 42, 43, 44] rfl rfl rfl (by decide +kernel) (by decide +kernel) (fun am H locs hu hP hD hS => ?_)
  replace hP : va_P D vwCl ((wX ad ci (x0 (clN 1 14 v0) (clN 20 200 v1) ad)) ++ wM am ci (m0 (clN 1 14 v0) (clN 20 200 v1))) H := hP
  replace hD : va_D (fun q => s.heap.size ≤ q) ((wX ad ci (x0 (clN 1 14 v0) (clN 20 200 v1) ad)) ++ wM am ci (m0 (clN 1 14 v0) (clN 20 200 v1))) := hD
  rw [← hu]
  refine lv_astore_n hx hb d_L_law_35 rfl hl (by decide) rfl (fun ls hl => ?_)
  replace hl : lv_has ls 4 [(2, .ref (am 0)), (1, .ref (ad 0)), (0, .ref b)] := hl
  refine lv_iconst (v := nI 2) hx hb d_L_law_36 (by decide) ?_
  refine lv_istore_n hx hb d_L_law_37 rfl hl (by decide) rfl (fun ls hl => ?_)
  replace hl : lv_has ls 4 [(3, .int (nI 2)), (2, .ref (am 0)), (1, .ref (ad 0)), (0, .ref b)] := hl
  have hl := lv_sub hl [3, 2, 1, 0] rfl
  refine W.widen (k := 600000) (n := 7302249) (by decide) (by decide) ?_
  exact law_loop l hL hx hb hr hml hown hT hX hbl hlocks D ci hK hN ad am 513 0 _ _ _ _ _ (by omega) (by omega) hl hP hD hS (inv0 ad (clN_le v0 (by omega)) (clN_le v1 (by omega)))
