theorem va_P_l {D : va_G} {cl : List vw_C} {w1 w2 : va_W} {H : Heap} (h : va_P D cl (w1 ++ w2) H) : va_P D cl w1 H := fun k x hk => by
  have hl : k < w1.length := (List.getElem?_eq_some_iff.mp hk).1
  exact h k x (by rw [List.getElem?_append_left hl]; exact hk)
theorem va_P_r {D : va_G} {cl : List vw_C} {w1 w2 : va_W} {H : Heap} (h : va_P D cl (w1 ++ w2) H) : va_P D cl w2 H := fun k x hk => h (w1.length + k) x (by rw [List.getElem?_append_right (by omega), show w1.length + k - w1.length = k by omega]; exact hk)
theorem va_D_l {A : Nat → Prop} {w1 w2 : va_W} (h : va_D A (w1 ++ w2)) : va_D A w1 := by
  have up : ∀ (k : Nat) (x : Nat × va_E), w1[k]? = some x → (w1 ++ w2)[k]? = some x := fun k x hk => by rw [List.getElem?_append_left (List.getElem?_eq_some_iff.mp hk).1]; exact hk
  exact ⟨fun i j x y hi hj e => h.1 i j x y (up i x hi) (up j y hj) e, fun k x hk => h.2 k x (up k x hk)⟩
theorem va_D_r {A : Nat → Prop} {w1 w2 : va_W} (h : va_D A (w1 ++ w2)) : va_D A w2 := by
  have up : ∀ (k : Nat) (x : Nat × va_E), w2[k]? = some x → (w1 ++ w2)[w1.length + k]? = some x := fun k x hk => by rw [List.getElem?_append_right (by omega), show w1.length + k - w1.length = k by omega]; exact hk
  exact ⟨fun i j x y hi hj e => by have := h.1 _ _ x y (up i x hi) (up j y hj) e; omega, fun k x hk => h.2 _ x (up k x hk)⟩
theorem va_D_x {A : Nat → Prop} {w1 w2 : va_W} (h : va_D A (w1 ++ w2)) : ∀ (i j : Nat) (x y : Nat × va_E), w1[i]? = some x → w2[j]? = some y → x.1 ≠ y.1 := fun i j x y hi hj e => by
  have hl := (List.getElem?_eq_some_iff.mp hi).1
  have h1 : (w1 ++ w2)[i]? = some x := by rw [List.getElem?_append_left hl]; exact hi
  have h2 : (w1 ++ w2)[w1.length + j]? = some y := by rw [List.getElem?_append_right (by omega), show w1.length + j - w1.length = j by omega]; exact hj
  have := h.1 _ _ x y h1 h2 e
  omega
/-- one of two worlds is worked on: the other stays -/
theorem va_two {A : Nat → Prop} {D : va_G} {cl : List vw_C} {wc wr w1 : va_W} {H H1 : Heap} (hPr : va_P D cl wr H) (hDr : va_D A wr) (hx : ∀ (i j : Nat) (x y : Nat × va_E), wc[i]? = some x → wr[j]? = some y → x.1 ≠ y.1) (hF : ∀ q, va_A wc H.size q → A q)
    (hk : ∀ q : Nat, q < H.size → ¬ va_A wc H.size q → H1[q]? = H[q]?) (hD1 : va_D (va_A wc H.size) w1) : va_P D cl wr H1 ∧ va_D A w1 ∧ ∀ (i j : Nat) (x y : Nat × va_E), w1[i]? = some x → wr[j]? = some y → x.1 ≠ y.1 := by
  have no : ∀ (j : Nat) (y : Nat × va_E), wr[j]? = some y → ¬ va_A wc H.size y.1 := fun j y hy h => by
    have hl := (hPr j y hy).lt
    rcases h with ⟨k, e, h⟩ | h
    · exact hx k j _ y h hy rfl
    · omega
  exact ⟨fun j y hy => (hPr j y hy).kept (hk y.1 (hPr j y hy).lt (no j y hy)), hD1.weaken (fun k x _ h => hF x.1 h), fun i j x y hi hj e => no j y hj (by rw [← e]; exact hD1.2 i x hi)⟩
section
variable {p : Program} {l : Launch} {e : Env} {R : Room} {s : State} {m : MethodId} {args : Array Value} {below : List Frame} {meth : Method} {c : Code} {H : Heap} {locs : List Loc} {cells slots : Nat} {Q : State → Prop}
variable {cc : ByteArray} {pc : Nat} {ls : Array Slot} {rest : List Value} {D : va_G} {cl : List vw_C} {A : Nat → Prop} {tys : List (ClassId × FieldType)} {w1 w2 wn : va_W} {H0 : Heap}
theorem ln_goiX {r : Int32} {ar : Array Value} {st0 : List Value} (hr : va_Run p l e R s m args below meth c H locs cells slots 0 0 (F0 m pc ls st0) rest (va_Qi (fun (x : Int32) (_ : Unit) => x = r) (cB D cl tys H.size w1 wn) (va_A w1 H.size) ar) (va_A w1 H.size))
    (hP : va_P D cl (w1 ++ w2) H) (hD : va_D A (w1 ++ w2)) (hS : va_S A H0 H locs) (hA : ∀ q, H0.size ≤ q → A q)
    (k : ∀ (H1 : Heap) (locs1 : List Loc), va_P D cl (wn ++ w2) H1 → va_D A (wn ++ w2) → va_S A H0 H1 locs1 → W p l e R s m args below meth c H1 locs1 cells slots Q (F0 m (pc + 3) ls (.int r :: rest))) : W p l e R s m args below meth c H locs cells slots Q (F0 m pc ls st0) := by
  have hFc : ∀ q, va_A w1 H.size q → A q := fun q h => by
    rcases h with ⟨k, e, h⟩ | h
    · exact (va_D_l hD).2 k (q, e) h
    · exact hA q (Nat.le_trans hS.1 h)
  refine va_calli hr hS (fun q _ h => hFc q h) hFc (fun r' u t H1 locs1 ht hvm hw hB1 hz1 hk1 hS1 => ?_)
  obtain ⟨hP1, hK1, hD1⟩ := hB1
  rw [ht] at hP1
  have hw : r' = r := hw
  subst hw
  obtain ⟨g1, g2, g3⟩ := va_two (va_P_r hP) (va_D_r hD) (va_D_x hD) hFc hk1 hD1
  exact k H1 locs1 (hP1.app g1) (va_D.app g2 (va_D_r hD) g3) hS1
theorem ln_govX {ar : Array Value} {st0 : List Value} (hr : va_Run p l e R s m args below meth c H locs cells slots 0 0 (F0 m pc ls st0) rest (va_Qv (fun (_ : Unit) => True) (cB D cl tys H.size w1 wn) (va_A w1 H.size) ar) (va_A w1 H.size))
    (hP : va_P D cl (w1 ++ w2) H) (hD : va_D A (w1 ++ w2)) (hS : va_S A H0 H locs) (hA : ∀ q, H0.size ≤ q → A q)
    (k : ∀ (H1 : Heap) (locs1 : List Loc), va_P D cl (wn ++ w2) H1 → va_D A (wn ++ w2) → va_S A H0 H1 locs1 → W p l e R s m args below meth c H1 locs1 cells slots Q (F0 m (pc + 3) ls rest)) : W p l e R s m args below meth c H locs cells slots Q (F0 m pc ls st0) := by
  have hFc : ∀ q, va_A w1 H.size q → A q := fun q h => by
    rcases h with ⟨k, e, h⟩ | h
    · exact (va_D_l hD).2 k (q, e) h
    · exact hA q (Nat.le_trans hS.1 h)
  refine va_callv hr hS (fun q _ h => hFc q h) hFc (fun u t H1 locs1 ht hvm hw hB1 hz1 hk1 hS1 => ?_)
  obtain ⟨hP1, hK1, hD1⟩ := hB1
  rw [ht] at hP1
  obtain ⟨g1, g2, g3⟩ := va_two (va_P_r hP) (va_D_r hD) (va_D_x hD) hFc hk1 hD1
  exact k H1 locs1 (hP1.app g1) (va_D.app g2 (va_D_r hD) g3) hS1
theorem ln_goiM {r : Int32} {ar : Array Value} {st0 : List Value} (hr : va_Run p l e R s m args below meth c H locs cells slots 0 0 (F0 m pc ls st0) rest (va_Qi (fun (x : Int32) (_ : Unit) => x = r) (cB D cl tys H.size w2 wn) (va_A w2 H.size) ar) (va_A w2 H.size))
    (hP : va_P D cl (w1 ++ w2) H) (hD : va_D A (w1 ++ w2)) (hS : va_S A H0 H locs) (hA : ∀ q, H0.size ≤ q → A q)
    (k : ∀ (H1 : Heap) (locs1 : List Loc), va_P D cl (w1 ++ wn) H1 → va_D A (w1 ++ wn) → va_S A H0 H1 locs1 → W p l e R s m args below meth c H1 locs1 cells slots Q (F0 m (pc + 3) ls (.int r :: rest))) : W p l e R s m args below meth c H locs cells slots Q (F0 m pc ls st0) := by
  have hFc : ∀ q, va_A w2 H.size q → A q := fun q h => by
    rcases h with ⟨k, e, h⟩ | h
    · exact (va_D_r hD).2 k (q, e) h
    · exact hA q (Nat.le_trans hS.1 h)
  refine va_calli hr hS (fun q _ h => hFc q h) hFc (fun r' u t H1 locs1 ht hvm hw hB1 hz1 hk1 hS1 => ?_)
  obtain ⟨hP1, hK1, hD1⟩ := hB1
  rw [ht] at hP1
  have hw : r' = r := hw
  subst hw
  obtain ⟨g1, g2, g3⟩ := va_two (va_P_l hP) (va_D_l hD) (fun i j x y hi hj e => va_D_x hD j i y x hj hi e.symm) hFc hk1 hD1
  exact k H1 locs1 (g1.app hP1) (va_D.app (va_D_l hD) g2 (fun i j x y hi hj e => g3 j i y x hj hi e.symm)) hS1
theorem ln_govM {ar : Array Value} {st0 : List Value} (hr : va_Run p l e R s m args below meth c H locs cells slots 0 0 (F0 m pc ls st0) rest (va_Qv (fun (_ : Unit) => True) (cB D cl tys H.size w2 wn) (va_A w2 H.size) ar) (va_A w2 H.size))
    (hP : va_P D cl (w1 ++ w2) H) (hD : va_D A (w1 ++ w2)) (hS : va_S A H0 H locs) (hA : ∀ q, H0.size ≤ q → A q)
    (k : ∀ (H1 : Heap) (locs1 : List Loc), va_P D cl (w1 ++ wn) H1 → va_D A (w1 ++ wn) → va_S A H0 H1 locs1 → W p l e R s m args below meth c H1 locs1 cells slots Q (F0 m (pc + 3) ls rest)) : W p l e R s m args below meth c H locs cells slots Q (F0 m pc ls st0) := by
  have hFc : ∀ q, va_A w2 H.size q → A q := fun q h => by
    rcases h with ⟨k, e, h⟩ | h
    · exact (va_D_r hD).2 k (q, e) h
    · exact hA q (Nat.le_trans hS.1 h)
  refine va_callv hr hS (fun q _ h => hFc q h) hFc (fun u t H1 locs1 ht hvm hw hB1 hz1 hk1 hS1 => ?_)
  obtain ⟨hP1, hK1, hD1⟩ := hB1
  rw [ht] at hP1
  obtain ⟨g1, g2, g3⟩ := va_two (va_P_l hP) (va_D_l hD) (fun i j x y hi hj e => va_D_x hD j i y x hj hi e.symm) hFc hk1 hD1
  exact k H1 locs1 (g1.app hP1) (va_D.app (va_D_l hD) g2 (fun i j x y hi hj e => g3 j i y x hj hi e.symm)) hS1
theorem ln_sld (hx : p.tables.exec = Jvm.exec) (hb : c.code = cc) {b L : Nat} {xs : Nat → Int32} (hX : va_X b L xs s H0) (hbl : b < H0.size) (hbA : ¬ A b) (hS : va_S A H0 H locs) {i : Nat} (hi : i < L) (hL : L < 2147483648) (hd : decode cc pc = .ok (.iaload, 1))
    (k : W p l e R s m args below meth c H locs cells slots Q (F0 m (pc + 1) ls (.int (xs i) :: rest))) : W p l e R s m args below meth c H locs cells slots Q (F0 m pc ls (.int (nI i) :: .ref b :: rest)) :=
  va_sld hx hb hX hbl hbA hS (vp_in_nI hi hL) hd (by rw [nI_clamp (show i < 2 ^ 31 by omega)]; exact k)
end
abbrev rm_cell : Room := { frames := 0, cells := 0, slots := 0, locals := 0 }
/-- cell: a place of the script, or 0 -/
theorem c_cell (l : Launch) (b L : Nat) (xs : Nat → Int32) (k : Nat) (hL : L < 2147483648) (hk : k < 2147483648) (sz : Nat) : Met l y_L_cell w_L_cell rm_cell (va_Pc [.ref b, .int (nI k)] (fun U => U.heap.size = sz ∧ va_X b L xs U U.heap ∧ b < sz)) (va_Qi (fun (r : Int32) (_ : Unit) => r = if k < L then xs k else 0) (fun _ _ => True) (va_A [] sz)) 0 0 (va_A [] sz) := by
  refine Met.ofW (cc := b_L_cell) (maxL := 2) (ret := some .int) (by decide) rfl ?_
  intro p e s m args below meth c s₁ B hml hv
  obtain ⟨hargs, hsz, hX, hbl⟩ := hv
  subst hsz
  subst hargs
  have hx := B.exec
  have hb := B.bytes
  have hr := B.returns
  have hl := lv_entry ([.ref b, .int (nI k)]) (n := 2) (Nat.le_of_ble_eq_true rfl)
  rw [lg_entry_eq]
  generalize (lg_sl ([.ref b, .int (nI k)]) ++ List.replicate (2 - (lg_sl ([.ref b, .int (nI k)])).length) Slot.unset).toArray = ls at hl ⊢
  have hl : lv_has ls 2 [(0, .ref b), (1, .int (nI k))] := hl
  have hS : va_S (va_A [] s.heap.size) s.heap s.heap [] := va_S.rf
  have hbA : ¬ va_A [] s.heap.size b := fun h => by
    rcases h with ⟨k, e, h⟩ | h
    · simp at h
    · omega
  refine lv_iload_n hx hb d_L_cell_0 rfl (lv_at hl 1 rfl) ?_
  refine lv_aload_n hx hb d_L_cell_1 rfl (lv_at hl 0 rfl) ?_
  refine va_slen hx hb hX hbl hbA hS d_L_cell_2 ?_
  refine ln_icmp_ge (y := L) hx hb hk hL 12 d_L_cell_3 (by decide) (fun h => ?_) (fun h => ?_)
  · refine lv_iconst (v := 0) hx hb d_L_cell_12 (by decide) ?_
    exact W.iret (v := 0) hx hb hr (fun t ht hW => ⟨⟨0, (), rfl, by rw [if_neg (by omega)], trivial⟩, hS.F ht⟩) hS.2.2 d_L_cell_13
  · refine lv_aload_n hx hb d_L_cell_6 rfl (lv_at hl 0 rfl) ?_
    refine lv_iload_n hx hb d_L_cell_7 rfl (lv_at hl 1 rfl) ?_
    refine ln_sld hx hb hX hbl hbA hS (by omega) hL d_L_cell_8 ?_
    refine lv_goto (tgt := 13) hx hb d_L_cell_9 (by decide) ?_
    exact W.iret (v := xs k) hx hb hr (fun t ht hW => ⟨⟨xs k, (), rfl, by rw [if_pos (by omega)], trivial⟩, hS.F ht⟩) hS.2.2 d_L_cell_13
section
variable {p : Program} {l : Launch} {e : Env} {R : Room} {s : State} {m : MethodId} {args : Array Value} {below : List Frame} {meth : Method} {c : Code} {H : Heap} {locs : List Loc} {cells slots : Nat} {Q : State → Prop}
variable {cc : ByteArray} {pc : Nat} {ls : Array Slot} {rest : List Value} {D : va_G} {cl : List vw_C} {A : Nat → Prop} {ws : va_W} {H0 : Heap}
theorem ln_cell (hx : p.tables.exec = Jvm.exec) (hb : c.code = cc) (hml : c.maxLocals = 4) (hown : s.vm.findClass R_L = some m.cls) (hT : ∀ w ∈ lw_ok, w.before args s = true) {b L : Nat} {xs : Nat → Int32} (hX : va_X b L xs s H0) (hbl : b < H0.size) (hbA : ¬ A b) (hP : va_P D cl ws H) (hS : va_S A H0 H locs) (hA : ∀ q, H0.size ≤ q → A q) (hL : L < 2147483648) {k : Nat} (hk : k < 2147483648) (hls : ls.size = 4) (hrest : (rest.map fun v => v.category).sum ≤ 8) (hf : 1 ≤ R.frames) (hlo : 8 + (2 + 11) + 0 ≤ R.locals) (hc : cells + 0 ≤ R.cells) (hs : slots + 0 ≤ R.slots) (hd : decode cc pc = .ok (.invokestatic 9, 3))
    (kk : ∀ (H1 : Heap) (locs1 : List Loc), va_P D cl ws H1 → va_S A H0 H1 locs1 → W p l e R s m args below meth c H1 locs1 cells slots Q (F0 m (pc + 3) ls (.int (if k < L then xs k else 0) :: rest))) : W p l e R s m args below meth c H locs cells slots Q (F0 m pc ls (.int (nI k) :: .ref b :: rest)) := by
  have hno : ∀ q : Nat, va_A [] H.size q → H.size ≤ q := fun q h => by
    rcases h with ⟨k, e, h⟩ | h
    · simp at h
    · exact h
  have hFc : ∀ q, va_A [] H.size q → A q := fun q h => hA q (Nat.le_trans hS.1 (hno q h))
  have hXH : va_X b L xs s H := hX.kept (hS.2.1 b hbl hbA)
  have hbH : b < H.size := Nat.lt_of_lt_of_le hbl hS.1
  refine va_calli (va_runS (As := [.ref b, .int (nI k)]) (rest := rest) (nL := 4) ⟨hx, hb, hml, hown, hT⟩ (c_cell l b L xs k hL hk H.size) (cw_S 2 hT wd_424 wd_0 wd_426 wd_425 (by decide +kernel) hf hlo) ⟨fun a U g mk z => ?_, fun U hU hW => ?_⟩ rfl rfl hls rfl (lv_room hrest) hd ⟨hc, hs⟩) hS (fun q _ h => hFc q h) hFc (fun r' u t H1 locs1 ht hvm hw hB1 hz1 hk1 hS1 => ?_)
  · obtain ⟨z1, z2, z3, z4⟩ := z
    exact ⟨z1, z2, va_X.moved (u := U) (U := U.calling g mk a) (Vm.Alike.refl U.vm) z3, z4⟩
  · exact ⟨rfl, by rw [hU], va_X.moved hW.alike (by rw [hU]; exact hXH), hbH⟩
  · have hw : r' = if k < L then xs k else 0 := hw
    subst hw
    exact kk H1 locs1 (hP.kept (fun k2 x hk2 => hk1 x.1 (hP k2 x hk2).lt (fun h => by have h1 := (hP k2 x hk2).lt; have h2 := hno _ h; omega))) hS1
end
theorem law_N {args : Array Value} {s : State} (hts : ∀ w ∈ lw_tbl, w.before args s = true) : NW s := by
  have h1 : ∀ q ∈ nfL, Cond.fieldLinkNest q.1 q.2.1 q.2.2.1 q.2.2.2.1 q.2.2.2.2.1 q.2.2.2.2.2 ∈ lw_tbl := by decide +kernel
  have h2 : ∀ q ∈ nmL, Cond.methodLinkNest q.1 q.2.1 q.2.2.1 q.2.2.2 ∈ lw_tbl := by decide +kernel
  exact ⟨fun q hq => va_Nw.of rfl (hts _ (h1 q hq)), fun q hq => va_Nw.of rfl (hts _ (h2 q hq))⟩
theorem law_O {args : Array Value} {s : State} (hts : ∀ w ∈ lw_tbl, w.before args s = true) : AOs s := by
  have h2 : ∀ q ∈ nmL2, Cond.methodLinkNest q.1 q.2.1 q.2.2.1 q.2.2.2 ∈ lw_tbl := by decide +kernel
  exact ⟨va_AO.of (hts (.arrayOver (.object "PacedMux$Sender")) (by decide +kernel)), va_AO.of (hts (.arrayOver (.object "PacedMux$Collector")) (by decide +kernel)), fun q hq => va_Nw.of rfl (hts _ (h2 q hq))⟩
theorem law_K {args : Array Value} {s : State} (hts : ∀ w ∈ lw_tbl, w.before args s = true) : ∃ (D : va_G) (ci : Nat → ClassId), va_K D vwCl (tyC ci) s := by
  have hT : ∀ w ∈ lw_ok, w.before args s = true := fun w h => hts w (List.mem_filter.mp h).1
  obtain ⟨c0, i0, k0⟩ := u_known hT in_C (hT _ wd_89)
  obtain ⟨c1, i1, k1⟩ := u_known hT in_P (hT _ wd_152)
  obtain ⟨c2, i2, k2⟩ := u_known hT in_R (hT _ wd_82)
  obtain ⟨c3, i3, k3⟩ := u_known hT in_S (hT _ wd_25)
  obtain ⟨c4, i4, k4⟩ := u_known hT in_U (hT _ wd_31)
  obtain ⟨c5, i5, k5⟩ := u_known hT in_X (hT _ wd_10)
  obtain ⟨c6, i6, k6⟩ := u_known hT in_M (hT _ wd_428)
  obtain ⟨a0, ka0, co0, f0, g0, h0⟩ := Cond.arrayClass_spec (hT _ wd_50)
  obtain ⟨a1, ka1, co1, f1, g1, h1⟩ := Cond.arrayClass_spec (hT _ wd_524)
  have hO := law_O hts
  obtain ⟨co2, a2, ka2, e2, -, g2, h2, f2⟩ := Cond.arrayOver_spec (va_AO.use (A := args) hO.1)
  obtain ⟨co3, a3, ka3, e3, -, g3, h3, f3⟩ := Cond.arrayOver_spec (va_AO.use (A := args) hO.2.1)
  refine ⟨(fun k => if k = 0 then c0 else if k = 1 then c1 else if k = 2 then c2 else if k = 3 then c3 else if k = 4 then c4 else if k = 5 then c5 else c6, fun k => if k = 0 then i0 else if k = 1 then i1 else if k = 2 then i2 else if k = 3 then i3 else if k = 4 then i4 else if k = 5 then i5 else i6), fun k => if k = 0 then a0 else if k = 1 then a1 else if k = 2 then a2 else a3, fun c q hq => ?_, fun k q hk => ?_⟩
  · rcases c with _ | _ | _ | _ | _ | _ | _ | c
    · cases hq; exact k0
    · cases hq; exact k1
    · cases hq; exact k2
    · cases hq; exact k3
    · cases hq; exact k4
    · cases hq; exact k5
    · cases hq; exact k6
    · simp at hq
  · rcases k with _ | _ | _ | _ | k
    · cases hk; exact ⟨fun N z => ⟨(fun k h => by cases h), ka0, g0, co0, h0⟩, f0⟩
    · cases hk; exact ⟨fun N z => ⟨(fun k h => by cases h), ka1, g1, co1, h1⟩, f1⟩
    · cases hk; exact ⟨fun N z => ⟨(fun k h => by cases h), ka2, g2, co2, h2⟩, ka2, co2, g2, h2, e2, f2⟩
    · cases hk; exact ⟨fun N z => ⟨(fun k h => by cases h), ka3, g3, co3, h3⟩, ka3, co3, g3, h3, e3, f3⟩
    · simp at hk
theorem clN_le {lo hi : Nat} (v : Int32) (h : lo ≤ hi) : clN lo hi v ≤ hi := by
  unfold clN
  split
  · exact h
  · split
    · omega
    · omega
theorem inv0 {lk cp : Nat} (u : Nat → Nat) (h1 : lk ≤ 14) (h2 : cp ≤ 200) : Inv (x0 lk cp u) (m0 lk cp) 0 := by
  have sr : ∀ (v q t : ST) (s : Nat), v = (fun _ => 0, fun _ _ => 0) → q = (fun _ => 0, fun _ _ => 0) → t = (fun _ => 0, fun _ _ => 0) → SRy v q t (m0 lk cp) 0 s := by
    intro v q t s hv hq ht
    subst hv; subst hq; subst ht
    refine ⟨⟨⟨rfl, fun i hi => by exact absurd hi (Nat.not_lt_zero _)⟩, ⟨rfl, fun i hi => by exact absurd hi (Nat.not_lt_zero _)⟩⟩, ⟨rfl, rfl, rfl, rfl, rfl, rfl⟩, ⟨Nat.le_refl _, Nat.le_refl _, Nat.zero_le _, Nat.zero_le _, Nat.zero_le _⟩, fun k hk => absurd hk (Nat.not_lt_zero _), fun k hk => absurd hk (Nat.not_lt_zero _), fun k _ hk => absurd hk (Nat.not_lt_zero _), ⟨fun h => absurd h (Nat.lt_irrefl _), fun _ => rfl, fun h => absurd h (Nat.lt_irrefl _), Nat.zero_le _, by show 0 < 16; omega, Nat.le_refl _⟩⟩
  have cr : ∀ (c : ST) (s : Nat), c.1 0 = 0 → c.1 1 = 0 → c.1 2 = 0 → c.1 10 = 0 → CRy c (m0 lk cp) s := by
    intro c s a b d e
    exact ⟨⟨a, b, d, Nat.zero_le _, by show 0 < 16; omega, Nat.zero_le _⟩, fun h => absurd h (by show ¬ (0 : Nat) = 1; omega), e, fun h => absurd h (Nat.lt_irrefl _)⟩
  refine ⟨⟨⟨sr _ _ _ 0 rfl rfl rfl, sr _ _ _ 1 rfl rfl rfl, sr _ _ _ 2 rfl rfl rfl⟩, ⟨rfl, rfl, rfl, rfl, Nat.zero_le _, h1, h2⟩, fun p _ => rfl, fun p _ => Nat.zero_le _⟩, ⟨⟨rfl, Nat.zero_le _, fun h => absurd h (by show ¬ (0 : Nat) = 1; omega), by show 0 < 65536; omega, by show 0 < 65536; omega, fun k _ => rfl⟩, cr _ 0 rfl rfl rfl rfl, cr _ 1 rfl rfl rfl rfl, cr _ 2 rfl rfl rfl rfl⟩, Nat.zero_le _, fun s _ => Nat.zero_le _, fun s _ => Nat.zero_le _⟩
