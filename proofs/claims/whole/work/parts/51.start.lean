theorem arr_b {args : Array Value} {s : State} (h : (Cond.arrayClass .byte).before args s = true) : ∃ cA : ClassId, ArrOfT s cA .byte ∧ va_RA s cA .byte := by
  obtain ⟨cA, kA, comp, h1, h2, h3⟩ := Cond.arrayClass_spec h
  exact ⟨cA, fun n z => ⟨fun k h => (by cases h), kA, h2, comp, h3⟩, h1⟩
theorem arr_i {args : Array Value} {s : State} (h : (Cond.arrayClass .int).before args s = true) : ∃ cA : ClassId, ArrOfT s cA .int ∧ va_RA s cA .int := by
  obtain ⟨cA, kA, comp, h1, h2, h3⟩ := Cond.arrayClass_spec h
  exact ⟨cA, fun n z => ⟨fun k h => (by cases h), kA, h2, comp, h3⟩, h1⟩
set_option maxRecDepth 100000 in
theorem qn_1 : Cond.methodLinkNest R_Wc 9 y_Bus_init "WideCore" ∈ lw_tbl := List.mem_of_getElem? (i := 84) rfl
set_option maxRecDepth 100000 in
theorem qn_2 : Cond.methodLinkNest R_Wc 18 y_Reg_init "WideCore" ∈ lw_tbl := List.mem_of_getElem? (i := 104) rfl
set_option maxRecDepth 100000 in
theorem qs_1 : Cond.laysStatic R_Prc "BRANCH_FLAGS" "[I" ∈ lw_tbl := List.mem_of_getElem? (i := 507) rfl
theorem at_C {cB cI : ClassId} {a a2 : Nat → Nat} {S T : Sc} : ∀ i, i < 8 → ∃ x, (wdC cB cI a S ++ wdT cI a2 T)[i]? = some (a i, x) := by
  intro i hi
  match i, hi with
  | 0, _ => exact ⟨_, rfl⟩
  | 1, _ => exact ⟨_, rfl⟩
  | 2, _ => exact ⟨_, rfl⟩
  | 3, _ => exact ⟨_, rfl⟩
  | 4, _ => exact ⟨_, rfl⟩
  | 5, _ => exact ⟨_, rfl⟩
  | 6, _ => exact ⟨_, rfl⟩
  | 7, _ => exact ⟨_, rfl⟩
  | i + 8, h => exact absurd h (by omega)
theorem at_T {cB cI : ClassId} {a a2 : Nat → Nat} {S T : Sc} : ∀ i, i < 3 → ∃ x, (wdC cB cI a S ++ wdT cI a2 T)[8 + i]? = some (a2 i, x) := by
  intro i hi
  match i, hi with
  | 0, _ => exact ⟨_, rfl⟩
  | 1, _ => exact ⟨_, rfl⟩
  | 2, _ => exact ⟨_, rfl⟩
  | i + 3, h => exact absurd h (by omega)
set_option maxHeartbeats 8000000 in
set_option maxRecDepth 100000 in
theorem whole_start {p : Program} {e : Env} {s : State} {m : MethodId} {below : List Frame} {meth : Method} {c : Code} (l : Launch) {b L : Nat} {xs : Nat → Int32} (hL : L ≤ 2048) (C0 : lw_At p s m meth c b L xs) : W p l e room_1 s m #[Value.ref b] below meth c s.heap [] 0 0 (lw_Z below #[Value.ref b] s) (entryFrame m ([Value.ref b] : List Value).toArray 4) := by
  obtain ⟨hx, hb, hr, hml, hown, hts0, hX, hbl, hlocks, hgv⟩ := C0
  have hown : s.vm.findClass R_Law = some m.cls := hown
  have hts : ∀ w ∈ WS, w.before #[Value.ref b] s = true := fun w h => hts0 w (List.mem_filter.mp h).1
  obtain ⟨cB, hB1, hB2⟩ := arr_b (hts _ q_100)
  obtain ⟨cI, hI1, hI2⟩ := arr_i (hts _ q_101)
  obtain ⟨c0, i0, k0⟩ := u_known hts in_Wc (hts _ q_75)
  obtain ⟨c1, i1, k1⟩ := u_known hts in_Bus (hts _ q_83)
  obtain ⟨c2, i2, k2⟩ := u_known hts in_Reg (hts _ q_103)
  obtain ⟨c3, i3, k3⟩ := u_known hts in_Prc (hts _ q_163)
  obtain ⟨c4, i4, k4⟩ := u_known hts in_Opd (hts _ q_169)
  obtain ⟨c5, i5, k5⟩ := u_known hts in_Stk (hts _ q_182)
  obtain ⟨c6, i6, k6⟩ := u_known hts in_Mdl (hts _ q_558)
  obtain ⟨D, hK⟩ : ∃ D : va_G, va_K D classes (tysB cB cI) s := by
    refine ⟨(fun k => match k with | 0 => c0 | 1 => c1 | 2 => c2 | 3 => c3 | 4 => c4 | 5 => c5 | _ => c6, fun k => match k with | 0 => i0 | 1 => i1 | 2 => i2 | 3 => i3 | 4 => i4 | 5 => i5 | _ => i6), fun k q h => ?_, fun k q h => ?_⟩
    · match k, h with
      | 0, h => cases h; exact k0
      | 1, h => cases h; exact k1
      | 2, h => cases h; exact k2
      | 3, h => cases h; exact k3
      | 4, h => cases h; exact k4
      | 5, h => cases h; exact k5
      | 6, h => cases h; exact k6
      | k + 7, h => cases h
    · match k, h with
      | 0, h => cases h; exact ⟨hB1, hB2⟩
      | 1, h => cases h; exact ⟨hI1, hI2⟩
      | k + 2, h => cases h
  have hs := flat_of_before _ hgv
  have hel : ∀ j : Nat, j < 4 → (Term.elem (Term.static "WideCore$Processor" "BRANCH_FLAGS" "[I") (.int (Int32.ofNat j))).eval #[Value.ref b] s none [] s = some (.int (bf j)) := by
    intro j hj
    match j, hj with
    | 0, _ => exact va_eqt (hs (Cond.eq (.elem (Term.static "WideCore$Processor" "BRANCH_FLAGS" "[I") (.int (0 : Int32))) (.int (128 : Int32))) (by decide +kernel))
    | 1, _ => exact va_eqt (hs (Cond.eq (.elem (Term.static "WideCore$Processor" "BRANCH_FLAGS" "[I") (.int (1 : Int32))) (.int (64 : Int32))) (by decide +kernel))
    | 2, _ => exact va_eqt (hs (Cond.eq (.elem (Term.static "WideCore$Processor" "BRANCH_FLAGS" "[I") (.int (2 : Int32))) (.int (1 : Int32))) (by decide +kernel))
    | 3, _ => exact va_eqt (hs (Cond.eq (.elem (Term.static "WideCore$Processor" "BRANCH_FLAGS" "[I") (.int (3 : Int32))) (.int (2 : Int32))) (by decide +kernel))
    | j + 4, h => exact absurd h (by omega)
  obtain ⟨bz, hbz, hT⟩ := va_Tof (A := AL s) (N := 4) (ty := .int) (f := fun j => .int (bf j)) (tm := (Term.static "WideCore$Processor" "BRANCH_FLAGS" "[I")) (by decide) (hs (Cond.arrayOf (Term.static "WideCore$Processor" "BRANCH_FLAGS" "[I") .int) (by decide +kernel)) (va_eqt (z := (4 : Int32)) (hs (Cond.eq (.length (Term.static "WideCore$Processor" "BRANCH_FLAGS" "[I")) (.int (4 : Int32))) (by decide +kernel))) hel (fun a ha => Nat.not_le.mpr ha)
  have hZ := va_Zof (A := AL s) (hts0 _ qs_1) (hts _ q_70) hbz (fun a ha => Nat.not_le.mpr ha)
  have X : LX p m c code 4 s #[Value.ref b] R_Law D cB cI bz := ⟨⟨hx, hb, hml, hown, hts⟩, hK, hZ, hT⟩
  have hP : va_P D classes [] s.heap := fun k q h => by simp at h
  have hD : va_D (AL s) [] := ⟨fun i j x y h => by simp at h, fun k q h => by simp at h⟩
  have hS : va_S (AL s) s.heap s.heap [] := va_S.rf
  have hA : ∀ q : Nat, s.heap.size ≤ q → AL s q := fun q h => h
  have hl := lv_entry ([.ref b]) (n := 4) (Nat.le_of_ble_eq_true rfl)
  rw [lg_entry_eq]
  generalize (lg_sl ([.ref b]) ++ List.replicate (4 - (lg_sl ([.ref b])).length) Slot.unset).toArray = ls at hl ⊢
  have hl : lv_has ls 4 [(0, .ref b)] := hl
  refine va_new (ci := 0) (fs := [.null, .null, .null]) (C := R_Wc) (T := F_Wc) (N := 3) hx hb hts in_Wc t_Wc t_Wc_ok hown (hts _ q_74) (hts _ q_75) (hts _ q_67) hK hP hD hS hA rfl dv_Wc (Nat.le_of_ble_eq_true rfl) (Nat.le_of_ble_eq_true rfl) d_Law_law_0 (fun q0 H hP hD hS => ?_)
  have hP : va_P D classes [(q0, .inr (0, [.null, .null, .null]))] H := hP
  have hD : va_D (AL s) [(q0, .inr (0, [.null, .null, .null]))] := hD
  refine lv_dup hx hb d_Law_law_3 rfl ?_
  have hFc := va_free (wc := [(q0, .inr (0, [.null, .null, .null]))]) hD hS hA [0] rfl
  have hbl1 : FrameBlind (va_Pc [.ref q0] (fun U => (PN D cB cI [(q0, .inr (0, [.null, .null, .null]))] H.size) U ∧ va_Nw (.methodLinkNest R_Wc 9 y_Bus_init "WideCore") U ∧ va_Nw (.methodLinkNest R_Wc 18 y_Reg_init "WideCore") U)) := fun a U g mk q => by
    obtain ⟨z0, ⟨z1, zP, zK, zD⟩, n1, n2⟩ := q
    exact ⟨z0, ⟨z1, zP, va_K.moved (u := U) (U := U.calling g mk a) (Vm.Alike.refl U.vm) zK, zD⟩, va_Nw.same rfl rfl n1, va_Nw.same rfl rfl n2⟩
  refine va_callv (va_runI (As := []) (rest := [.ref q0]) ⟨hx, hb, hml, hown, hts⟩ (c_Wc_init l D cB cI q0 H.size) (cwI 0 hts (good_c q_78) rfl rfl rfl (hts _ q_67) (hts _ q_76) (hts _ q_77) rfl ⟨by decide +kernel, by decide +kernel, by decide +kernel⟩ ⟨Nat.le_of_ble_eq_true rfl, Nat.le_of_ble_eq_true rfl⟩) ⟨hbl1, fun U hU hW => ⟨rfl, ⟨by rw [hU], by rw [hU]; exact hP, va_K.moved hW.alike hK, hD.weaken (fun _ _ _ _ => trivial)⟩, va_Nw.warmM hW (va_Nw.of rfl (hts0 _ qn_1)), va_Nw.warmM hW (va_Nw.of rfl (hts0 _ qn_2))⟩⟩ rfl rfl hl.1 rfl (lv_room (Nat.le_of_ble_eq_true rfl)) d_Law_law_4 ⟨Nat.le_of_ble_eq_true rfl, Nat.le_of_ble_eq_true rfl⟩) hS (fun q _ h => hFc q h) hFc (fun a t H1 locs ht hvm ha0 hB hz1 hk1 hS => ?_)
  obtain ⟨hPc, hDc⟩ := hB
  rw [ht] at hPc
  have hD : va_D (AL s) (wdC cB cI a S0) := hDc.weaken (fun _ x _ h => hFc x.1 h)
  clear hk1 hP hDc hbl1
  refine lv_astore_n hx hb d_Law_law_7 rfl hl (Nat.le_of_ble_eq_true rfl) rfl (fun ls hl => ?_)
  have hl : lv_has ls 4 [(1, .ref q0), (0, .ref b)] := hl
  refine va_new (ci := 6) (fs := [.null, .int 0, .int 0, .int 0, .int 0, .int 0, .int 0, .int 0, .int 0, .int 0, .int 0, .int 0, .int 0, .int 0, .int 0, .null, .int 0, .int 0]) (C := R_Mdl) (T := F_Mdl) (N := 18) hx hb hts in_Mdl t_Mdl t_Mdl_ok hown (hts _ q_557) (hts _ q_558) (hts _ q_73) hK hPc hD hS hA rfl dv_Mdl (Nat.le_of_ble_eq_true rfl) (Nat.le_of_ble_eq_true rfl) d_Law_law_8 (fun q8 H2 hP hD hS => ?_)
  refine lv_dup hx hb d_Law_law_11 rfl ?_
  have hPn := hP.sub (ws' := [(q8, .inr (6, [.null, .int 0, .int 0, .int 0, .int 0, .int 0, .int 0, .int 0, .int 0, .int 0, .int 0, .int 0, .int 0, .int 0, .int 0, .null, .int 0, .int 0]))]) [8] rfl
  have hDn := hD.sub (ws' := [(q8, .inr (6, [.null, .int 0, .int 0, .int 0, .int 0, .int 0, .int 0, .int 0, .int 0, .int 0, .int 0, .int 0, .int 0, .int 0, .int 0, .null, .int 0, .int 0]))]) [8] (by decide) rfl
  have hFd := va_free (wc := [(q8, .inr (6, [.null, .int 0, .int 0, .int 0, .int 0, .int 0, .int 0, .int 0, .int 0, .int 0, .int 0, .int 0, .int 0, .int 0, .int 0, .null, .int 0, .int 0]))]) hD hS hA [8] rfl
  refine va_callv (va_runI (As := []) (rest := [.ref q8]) ⟨hx, hb, hml, hown, hts⟩ (c_Mdl_init l D cB cI q8 H2.size) (cwI 0 hts (good_c q_561) rfl rfl rfl (hts _ q_73) (hts _ q_559) (hts _ q_560) rfl ⟨by decide +kernel, by decide +kernel, by decide +kernel⟩ ⟨Nat.le_of_ble_eq_true rfl, Nat.le_of_ble_eq_true rfl⟩) ⟨PN_blind, fun U hU hW => ⟨rfl, by rw [hU], by rw [hU]; exact hPn, va_K.moved hW.alike hK, hDn.weaken (fun _ _ _ _ => trivial)⟩⟩ rfl rfl hl.1 rfl (lv_room (Nat.le_of_ble_eq_true rfl)) d_Law_law_12 ⟨Nat.le_of_ble_eq_true rfl, Nat.le_of_ble_eq_true rfl⟩) hS (fun q _ h => hFd q h) hFd (fun a2 t H3 locs ht2 hvm2 ha20 hB hz2 hk2 hS => ?_)
  obtain ⟨hPt, hDt⟩ := hB
  rw [ht2] at hPt
  obtain ⟨hP, hD⟩ := va_join (wr := wdC cB cI a S0) (w1 := wdT cI a2 T0) hP hD [8] [0, 1, 2, 3, 4, 5, 6, 7] rfl rfl (by decide) (by decide) hk2 hFd hPt hDt
  have hPc := hP.sub (ws' := wdC cB cI a S0) [0, 1, 2, 3, 4, 5, 6, 7] rfl
  have ha : ap a 8 := fun i j hi hj z => by
    obtain ⟨_, y1⟩ := at_C (cB := cB) (cI := cI) (a := a) (a2 := a2) (S := S0) (T := T0) i hi
    obtain ⟨_, y2⟩ := at_C (cB := cB) (cI := cI) (a := a) (a2 := a2) (S := S0) (T := T0) j hj
    exact hD.1 i j _ _ y1 y2 z
  have ha2 : ap a2 3 := fun i j hi hj z => by
    obtain ⟨_, y1⟩ := at_T (cB := cB) (cI := cI) (a := a) (a2 := a2) (S := S0) (T := T0) i hi
    obtain ⟨_, y2⟩ := at_T (cB := cB) (cI := cI) (a := a) (a2 := a2) (S := S0) (T := T0) j hj
    have := hD.1 (8 + i) (8 + j) _ _ y1 y2 z
    omega
  have hdj : ∀ i j, i < 8 → j < 3 → a i ≠ a2 j := fun i j hi hj z => by
    obtain ⟨_, y1⟩ := at_C (cB := cB) (cI := cI) (a := a) (a2 := a2) (S := S0) (T := T0) i hi
    obtain ⟨_, y2⟩ := at_T (cB := cB) (cI := cI) (a := a) (a2 := a2) (S := S0) (T := T0) j hj
    have := hD.1 i (8 + j) _ _ y1 y2 z
    omega
  have hAa : ∀ q, ow a 8 q → AL s q := fun q h => by
    obtain ⟨k, hk, rfl⟩ := h
    obtain ⟨_, y1⟩ := at_C (cB := cB) (cI := cI) (a := a) (a2 := a2) (S := S0) (T := T0) k hk
    exact hD.2 k _ y1
  have hAb : ∀ q, ow a2 3 q → AL s q := fun q h => by
    obtain ⟨k, hk, rfl⟩ := h
    obtain ⟨_, y1⟩ := at_T (cB := cB) (cI := cI) (a := a) (a2 := a2) (S := S0) (T := T0) k hk
    exact hD.2 (8 + k) _ y1
  refine lv_astore_n hx hb d_Law_law_15 rfl hl (Nat.le_of_ble_eq_true rfl) rfl (fun ls hl => ?_)
  have hl : lv_has ls 4 [(2, .ref q8), (1, .ref q0), (0, .ref b)] := hl
  refine lv_iconst (v := nI (4 * 0)) hx hb d_Law_law_16 (by decide) ?_
  refine lv_istore_n hx hb d_Law_law_17 rfl hl (Nat.le_of_ble_eq_true rfl) rfl (fun ls hl => ?_)
  have hl : lv_has ls 4 [(3, .int (nI (4 * 0))), (2, .ref q8), (1, .ref q0), (0, .ref b)] := hl
  rw [← ha0, ← ha20] at hl
  exact law_loop l hL X hr hlocks hX hbl ha ha2 hAa hAb hdj L 0 (by omega) (by omega) S0 T0 H3 locs ls RR0 hPc hPt hS hl
