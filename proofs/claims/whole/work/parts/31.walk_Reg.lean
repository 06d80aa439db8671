set_option maxHeartbeats 4000000 in
set_option maxRecDepth 100000 in
theorem c_Reg_wideIndex (l : Launch) (D : va_G) (cB cI : ClassId) (a : Nat → Nat) (bz : Nat) (ha : ap a 8) (S : Sc) : MI l y_Reg_wideIndex b_Reg_wideIndex 1 (some .boolean) rm_Reg_wideIndex [.ref (a 2)] D cB cI (wdC cB cI a) (ow a 8) bz S (f_Reg_wideIndex S, S) := by
  refine met_in R_Reg (by decide) rfl (Nat.le_of_ble_eq_true rfl) (wdC_D ha cB cI) ?_
  intro p e s m below meth c ls X hr hk hl hP hS
  have hx := X.1.1
  have hb := X.1.2.1
  have hown := X.1.2.2.2.1
  have hts := X.1.2.2.2.2
  have hl : lv_has ls 1 [(0, .ref (a 2))] := hl
  refine lv_aload_n hx hb d_Reg_wideIndex_0 rfl (lv_at hl 0 rfl) ?_
  refine gt_Reg X hP 8 (by decide) (v := .int (S.1 8)) q_140 rfl d_Reg_wideIndex_1 ?_
  refine lv_bipush (v := (16 : Int32)) hx hb d_Reg_wideIndex_4 (by decide) ?_
  refine lv_iand hx hb d_Reg_wideIndex_6 ?_
  refine lv_if_ne (tgt := 14) hx hb d_Reg_wideIndex_7 rfl (fun h1 => ?_) (fun h1 => ?_)
  ·
    refine lv_iconst (v := (0 : Int32)) hx hb d_Reg_wideIndex_14 (by decide) ?_
    exact rt_z X hr hk hP hS (by decide) (by rw [f_Reg_wideIndex, if_neg h1]) d_Reg_wideIndex_15
  ·
    refine lv_iconst (v := (1 : Int32)) hx hb d_Reg_wideIndex_10 (by decide) ?_
    refine lv_goto (tgt := 15) hx hb d_Reg_wideIndex_11 rfl ?_
    exact rt_z X hr hk hP hS (by decide) (by rw [f_Reg_wideIndex, if_pos h1]) d_Reg_wideIndex_15
set_option maxHeartbeats 4000000 in
set_option maxRecDepth 100000 in
theorem c_Reg_maskOf (l : Launch) (D : va_G) (cB cI : ClassId) (a : Nat → Nat) (bz : Nat) (ha : ap a 8) (S : Sc) (x0 : Int32) : MI l y_Reg_maskOf b_Reg_maskOf 1 (some .int) rm_Reg_maskOf [.int x0] D cB cI (wdC cB cI a) (ow a 8) bz S (f_Reg_maskOf x0, S) := by
  refine met_in R_Reg (by decide) rfl (Nat.le_of_ble_eq_true rfl) (wdC_D ha cB cI) ?_
  intro p e s m below meth c ls X hr hk hl hP hS
  have hx := X.1.1
  have hb := X.1.2.1
  have hown := X.1.2.2.2.1
  have hts := X.1.2.2.2.2
  have hl : lv_has ls 1 [(0, .int x0)] := hl
  refine lv_iload_n hx hb d_Reg_maskOf_0 rfl (lv_at hl 0 rfl) ?_
  refine lv_if_eq (tgt := 9) hx hb d_Reg_maskOf_1 rfl (fun h1 => ?_) (fun h1 => ?_)
  ·
    refine lv_sipush (v := (255 : Int32)) hx hb d_Reg_maskOf_9 (by decide) ?_
    exact rt_vs X hr hk hP hS (by rw [f_Reg_maskOf, if_pos h1]) d_Reg_maskOf_12
  ·
    refine lv_ldc (v := (65535 : Int32)) hx hb hown (hts _ q_261) d_Reg_maskOf_4 ?_
    refine lv_goto (tgt := 12) hx hb d_Reg_maskOf_6 rfl ?_
    exact rt_vs X hr hk hP hS (by rw [f_Reg_maskOf, if_neg h1]) d_Reg_maskOf_12
set_option maxHeartbeats 4000000 in
set_option maxRecDepth 100000 in
theorem c_Reg_indexMask (l : Launch) (D : va_G) (cB cI : ClassId) (a : Nat → Nat) (bz : Nat) (ha : ap a 8) (S : Sc) : MI l y_Reg_indexMask b_Reg_indexMask 1 (some .int) rm_Reg_indexMask [.ref (a 2)] D cB cI (wdC cB cI a) (ow a 8) bz S (f_Reg_indexMask S, S) := by
  refine met_in R_Reg (by decide) rfl (Nat.le_of_ble_eq_true rfl) (wdC_D ha cB cI) ?_
  intro p e s m below meth c ls X hr hk hl hP hS
  have hx := X.1.1
  have hb := X.1.2.1
  have hown := X.1.2.2.2.1
  have hts := X.1.2.2.2.2
  have hl : lv_has ls 1 [(0, .ref (a 2))] := hl
  refine lv_aload_n hx hb d_Reg_indexMask_0 rfl (lv_at hl 0 rfl) ?_
  refine kv_v (rest := []) X hP hS (c_Reg_wideIndex l D cB cI a bz ha S) (kw_Reg_wideIndex hts q_254 ⟨Nat.le_of_ble_eq_true rfl, Nat.le_of_ble_eq_true rfl⟩) 2 rfl rfl rfl hl.1 rfl (lv_room (Nat.le_of_ble_eq_true rfl)) d_Reg_indexMask_1 (fun H locs hP hS => ?_)
  refine ks_v (rest := []) X hP hS (c_Reg_maskOf l D cB cI a bz ha S (f_Reg_wideIndex S)) (kw_Reg_maskOf hts q_258 ⟨Nat.le_of_ble_eq_true rfl, Nat.le_of_ble_eq_true rfl⟩) rfl hl.1 rfl (lv_room (Nat.le_of_ble_eq_true rfl)) d_Reg_indexMask_4 (fun H locs hP hS => ?_)
  exact rt_vs X hr hk hP hS (by rw [f_Reg_indexMask]) d_Reg_indexMask_7
set_option maxHeartbeats 4000000 in
set_option maxRecDepth 100000 in
theorem c_Reg_replaceP (l : Launch) (D : va_G) (cB cI : ClassId) (a : Nat → Nat) (bz : Nat) (ha : ap a 8) (S : Sc) (x1 : Int32) : MV l y_Reg_replaceP b_Reg_replaceP 2 rm_Reg_replaceP [.ref (a 2), .int x1] D cB cI (wdC cB cI a) (ow a 8) bz S (f_Reg_replaceP S x1) := by
  refine met_in R_Reg (by decide) rfl (Nat.le_of_ble_eq_true rfl) (wdC_D ha cB cI) ?_
  intro p e s m below meth c ls X hr hk hl hP hS
  have hx := X.1.1
  have hb := X.1.2.1
  have hown := X.1.2.2.2.1
  have hts := X.1.2.2.2.2
  have hl : lv_has ls 2 [(0, .ref (a 2)), (1, .int x1)] := hl
  refine lv_aload_n hx hb d_Reg_replaceP_0 rfl (lv_at hl 0 rfl) ?_
  refine lv_iload_n hx hb d_Reg_replaceP_1 rfl (lv_at hl 1 rfl) ?_
  refine pt_Reg X hP hS 8 (by decide) (v := x1) (S1 := (pr S 8 (x1))) q_140 rfl rfl rfl rfl d_Reg_replaceP_2 (fun H locs hP hS => ?_)
  refine lv_aload_n hx hb d_Reg_replaceP_5 rfl (lv_at hl 0 rfl) ?_
  refine lv_dup hx hb d_Reg_replaceP_6 rfl ?_
  refine gt_Reg X hP 1 (by decide) (v := .int (S.1 1)) q_114 rfl d_Reg_replaceP_7 ?_
  refine lv_aload_n hx hb d_Reg_replaceP_10 rfl (lv_at hl 0 rfl) ?_
  refine kv_v (rest := [.int (S.1 1), .ref (a 2)]) X hP hS (c_Reg_indexMask l D cB cI a bz ha (pr S 8 (x1))) (kw_Reg_indexMask hts q_266 ⟨Nat.le_of_ble_eq_true rfl, Nat.le_of_ble_eq_true rfl⟩) 2 rfl rfl rfl hl.1 rfl (lv_room (Nat.le_of_ble_eq_true rfl)) d_Reg_replaceP_11 (fun H locs hP hS => ?_)
  refine lv_iand hx hb d_Reg_replaceP_14 ?_
  refine pt_Reg X hP hS 1 (by decide) (v := ((S.1 1) &&& (f_Reg_indexMask (pr S 8 (x1))))) (S1 := (pr (pr S 8 (x1)) 1 (((S.1 1) &&& (f_Reg_indexMask (pr S 8 (x1))))))) q_114 rfl rfl rfl rfl d_Reg_replaceP_15 (fun H locs hP hS => ?_)
  refine lv_aload_n hx hb d_Reg_replaceP_18 rfl (lv_at hl 0 rfl) ?_
  refine lv_dup hx hb d_Reg_replaceP_19 rfl ?_
  refine gt_Reg X hP 2 (by decide) (v := .int (S.1 2)) q_118 rfl d_Reg_replaceP_20 ?_
  refine lv_aload_n hx hb d_Reg_replaceP_23 rfl (lv_at hl 0 rfl) ?_
  refine kv_v (rest := [.int (S.1 2), .ref (a 2)]) X hP hS (c_Reg_indexMask l D cB cI a bz ha (pr (pr S 8 (x1)) 1 (((S.1 1) &&& (f_Reg_indexMask (pr S 8 (x1))))))) (kw_Reg_indexMask hts q_266 ⟨Nat.le_of_ble_eq_true rfl, Nat.le_of_ble_eq_true rfl⟩) 2 rfl rfl rfl hl.1 rfl (lv_room (Nat.le_of_ble_eq_true rfl)) d_Reg_replaceP_24 (fun H locs hP hS => ?_)
  refine lv_iand hx hb d_Reg_replaceP_27 ?_
  refine pt_Reg X hP hS 2 (by decide) (v := ((S.1 2) &&& (f_Reg_indexMask (pr (pr S 8 (x1)) 1 (((S.1 1) &&& (f_Reg_indexMask (pr S 8 (x1))))))))) (S1 := (pr (pr (pr S 8 (x1)) 1 (((S.1 1) &&& (f_Reg_indexMask (pr S 8 (x1)))))) 2 (((S.1 2) &&& (f_Reg_indexMask (pr (pr S 8 (x1)) 1 (((S.1 1) &&& (f_Reg_indexMask (pr S 8 (x1))))))))))) q_118 rfl rfl rfl rfl d_Reg_replaceP_28 (fun H locs hP hS => ?_)
  exact rt_s X hr hk hP hS (by rw [f_Reg_replaceP]) d_Reg_replaceP_31
set_option maxHeartbeats 4000000 in
set_option maxRecDepth 100000 in
theorem c_Reg_putFlag (l : Launch) (D : va_G) (cB cI : ClassId) (a : Nat → Nat) (bz : Nat) (ha : ap a 8) (S : Sc) (x1 x2 : Int32) : MV l y_Reg_putFlag b_Reg_putFlag 3 rm_Reg_putFlag [.ref (a 2), .int x1, .int x2] D cB cI (wdC cB cI a) (ow a 8) bz S (f_Reg_putFlag S x1 x2) := by
  refine met_in R_Reg (by decide) rfl (Nat.le_of_ble_eq_true rfl) (wdC_D ha cB cI) ?_
  intro p e s m below meth c ls X hr hk hl hP hS
  have hx := X.1.1
  have hb := X.1.2.1
  have hown := X.1.2.2.2.1
  have hts := X.1.2.2.2.2
  have hl : lv_has ls 3 [(0, .ref (a 2)), (1, .int x1), (2, .int x2)] := hl
  refine lv_aload_n hx hb d_Reg_putFlag_0 rfl (lv_at hl 0 rfl) ?_
  refine lv_iload_n hx hb d_Reg_putFlag_1 rfl (lv_at hl 2 rfl) ?_
  refine lv_if_eq (tgt := 14) hx hb d_Reg_putFlag_2 rfl (fun h1 => ?_) (fun h1 => ?_)
  ·
    refine lv_aload_n hx hb d_Reg_putFlag_14 rfl (lv_at hl 0 rfl) ?_
    refine gt_Reg X hP 8 (by decide) (v := .int (S.1 8)) q_140 rfl d_Reg_putFlag_15 ?_
    refine lv_iload_n hx hb d_Reg_putFlag_18 rfl (lv_at hl 1 rfl) ?_
    refine lv_iconst (v := (-1 : Int32)) hx hb d_Reg_putFlag_19 (by decide) ?_
    refine lv_ixor hx hb d_Reg_putFlag_20 ?_
    refine lv_iand hx hb d_Reg_putFlag_21 ?_
    refine pt_Reg X hP hS 8 (by decide) (v := ((S.1 8) &&& (x1 ^^^ (-1 : Int32)))) (S1 := (pr S 8 (((S.1 8) &&& (x1 ^^^ (-1 : Int32)))))) q_140 rfl rfl rfl rfl d_Reg_putFlag_22 (fun H locs hP hS => ?_)
    exact rt_s X hr hk hP hS (by rw [f_Reg_putFlag, if_pos h1]) d_Reg_putFlag_25
  ·
    refine lv_aload_n hx hb d_Reg_putFlag_5 rfl (lv_at hl 0 rfl) ?_
    refine gt_Reg X hP 8 (by decide) (v := .int (S.1 8)) q_140 rfl d_Reg_putFlag_6 ?_
    refine lv_iload_n hx hb d_Reg_putFlag_9 rfl (lv_at hl 1 rfl) ?_
    refine lv_ior hx hb d_Reg_putFlag_10 ?_
    refine lv_goto (tgt := 22) hx hb d_Reg_putFlag_11 rfl ?_
    refine pt_Reg X hP hS 8 (by decide) (v := ((S.1 8) ||| x1)) (S1 := (pr S 8 (((S.1 8) ||| x1)))) q_140 rfl rfl rfl rfl d_Reg_putFlag_22 (fun H locs hP hS => ?_)
    exact rt_s X hr hk hP hS (by rw [f_Reg_putFlag, if_neg h1]) d_Reg_putFlag_25
set_option maxHeartbeats 4000000 in
set_option maxRecDepth 100000 in
theorem c_Reg_has (l : Launch) (D : va_G) (cB cI : ClassId) (a : Nat → Nat) (bz : Nat) (ha : ap a 8) (S : Sc) (x1 : Int32) : MI l y_Reg_has b_Reg_has 2 (some .boolean) rm_Reg_has [.ref (a 2), .int x1] D cB cI (wdC cB cI a) (ow a 8) bz S (f_Reg_has S x1, S) := by
  refine met_in R_Reg (by decide) rfl (Nat.le_of_ble_eq_true rfl) (wdC_D ha cB cI) ?_
  intro p e s m below meth c ls X hr hk hl hP hS
  have hx := X.1.1
  have hb := X.1.2.1
  have hown := X.1.2.2.2.1
  have hts := X.1.2.2.2.2
  have hl : lv_has ls 2 [(0, .ref (a 2)), (1, .int x1)] := hl
  refine lv_aload_n hx hb d_Reg_has_0 rfl (lv_at hl 0 rfl) ?_
  refine gt_Reg X hP 8 (by decide) (v := .int (S.1 8)) q_140 rfl d_Reg_has_1 ?_
  refine lv_iload_n hx hb d_Reg_has_4 rfl (lv_at hl 1 rfl) ?_
  refine lv_iand hx hb d_Reg_has_5 ?_
  refine lv_if_eq (tgt := 13) hx hb d_Reg_has_6 rfl (fun h1 => ?_) (fun h1 => ?_)
  ·
    refine lv_iconst (v := (0 : Int32)) hx hb d_Reg_has_13 (by decide) ?_
    exact rt_z X hr hk hP hS (by decide) (by rw [f_Reg_has, if_pos h1]) d_Reg_has_14
  ·
    refine lv_iconst (v := (1 : Int32)) hx hb d_Reg_has_9 (by decide) ?_
    refine lv_goto (tgt := 14) hx hb d_Reg_has_10 rfl ?_
    exact rt_z X hr hk hP hS (by decide) (by rw [f_Reg_has, if_neg h1]) d_Reg_has_14
set_option maxHeartbeats 4000000 in
set_option maxRecDepth 100000 in
theorem c_Reg_wideA (l : Launch) (D : va_G) (cB cI : ClassId) (a : Nat → Nat) (bz : Nat) (ha : ap a 8) (S : Sc) : MI l y_Reg_wideA b_Reg_wideA 1 (some .boolean) rm_Reg_wideA [.ref (a 2)] D cB cI (wdC cB cI a) (ow a 8) bz S (f_Reg_wideA S, S) := by
  refine met_in R_Reg (by decide) rfl (Nat.le_of_ble_eq_true rfl) (wdC_D ha cB cI) ?_
  intro p e s m below meth c ls X hr hk hl hP hS
  have hx := X.1.1
  have hb := X.1.2.1
  have hown := X.1.2.2.2.1
  have hts := X.1.2.2.2.2
  have hl : lv_has ls 1 [(0, .ref (a 2))] := hl
  refine lv_aload_n hx hb d_Reg_wideA_0 rfl (lv_at hl 0 rfl) ?_
  refine gt_Reg X hP 8 (by decide) (v := .int (S.1 8)) q_140 rfl d_Reg_wideA_1 ?_
  refine lv_bipush (v := (32 : Int32)) hx hb d_Reg_wideA_4 (by decide) ?_
  refine lv_iand hx hb d_Reg_wideA_6 ?_
  refine lv_if_ne (tgt := 14) hx hb d_Reg_wideA_7 rfl (fun h1 => ?_) (fun h1 => ?_)
  ·
    refine lv_iconst (v := (0 : Int32)) hx hb d_Reg_wideA_14 (by decide) ?_
    exact rt_z X hr hk hP hS (by decide) (by rw [f_Reg_wideA, if_neg h1]) d_Reg_wideA_15
  ·
    refine lv_iconst (v := (1 : Int32)) hx hb d_Reg_wideA_10 (by decide) ?_
    refine lv_goto (tgt := 15) hx hb d_Reg_wideA_11 rfl ?_
    exact rt_z X hr hk hP hS (by decide) (by rw [f_Reg_wideA, if_pos h1]) d_Reg_wideA_15
set_option maxHeartbeats 4000000 in
set_option maxRecDepth 100000 in
theorem c_Reg_a (l : Launch) (D : va_G) (cB cI : ClassId) (a : Nat → Nat) (bz : Nat) (ha : ap a 8) (S : Sc) : MI l y_Reg_a b_Reg_a 1 (some .int) rm_Reg_a [.ref (a 2)] D cB cI (wdC cB cI a) (ow a 8) bz S (f_Reg_a S, S) := by
  refine met_in R_Reg (by decide) rfl (Nat.le_of_ble_eq_true rfl) (wdC_D ha cB cI) ?_
  intro p e s m below meth c ls X hr hk hl hP hS
  have hx := X.1.1
  have hb := X.1.2.1
  have hown := X.1.2.2.2.1
  have hts := X.1.2.2.2.2
  have hl : lv_has ls 1 [(0, .ref (a 2))] := hl
  refine lv_aload_n hx hb d_Reg_a_0 rfl (lv_at hl 0 rfl) ?_
  refine gt_Reg X hP 0 (by decide) (v := .int (S.1 0)) q_110 rfl d_Reg_a_1 ?_
  refine lv_aload_n hx hb d_Reg_a_4 rfl (lv_at hl 0 rfl) ?_
  refine kv_v (rest := [.int (S.1 0)]) X hP hS (c_Reg_wideA l D cB cI a bz ha S) (kw_Reg_wideA hts q_400 ⟨Nat.le_of_ble_eq_true rfl, Nat.le_of_ble_eq_true rfl⟩) 2 rfl rfl rfl hl.1 rfl (lv_room (Nat.le_of_ble_eq_true rfl)) d_Reg_a_5 (fun H locs hP hS => ?_)
  refine ks_v (rest := [.int (S.1 0)]) X hP hS (c_Reg_maskOf l D cB cI a bz ha S (f_Reg_wideA S)) (kw_Reg_maskOf hts q_258 ⟨Nat.le_of_ble_eq_true rfl, Nat.le_of_ble_eq_true rfl⟩) rfl hl.1 rfl (lv_room (Nat.le_of_ble_eq_true rfl)) d_Reg_a_8 (fun H locs hP hS => ?_)
  refine lv_iand hx hb d_Reg_a_11 ?_
  exact rt_vs X hr hk hP hS (by rw [f_Reg_a]) d_Reg_a_12
set_option maxHeartbeats 4000000 in
set_option maxRecDepth 100000 in
theorem c_Reg_signOf (l : Launch) (D : va_G) (cB cI : ClassId) (a : Nat → Nat) (bz : Nat) (ha : ap a 8) (S : Sc) (x0 : Int32) : MI l y_Reg_signOf b_Reg_signOf 1 (some .int) rm_Reg_signOf [.int x0] D cB cI (wdC cB cI a) (ow a 8) bz S (f_Reg_signOf x0, S) := by
  refine met_in R_Reg (by decide) rfl (Nat.le_of_ble_eq_true rfl) (wdC_D ha cB cI) ?_
  intro p e s m below meth c ls X hr hk hl hP hS
  have hx := X.1.1
  have hb := X.1.2.1
  have hown := X.1.2.2.2.1
  have hts := X.1.2.2.2.2
  have hl : lv_has ls 1 [(0, .int x0)] := hl
  refine lv_iload_n hx hb d_Reg_signOf_0 rfl (lv_at hl 0 rfl) ?_
  refine lv_if_eq (tgt := 9) hx hb d_Reg_signOf_1 rfl (fun h1 => ?_) (fun h1 => ?_)
  ·
    refine lv_sipush (v := (128 : Int32)) hx hb d_Reg_signOf_9 (by decide) ?_
    exact rt_vs X hr hk hP hS (by rw [f_Reg_signOf, if_pos h1]) d_Reg_signOf_12
  ·
    refine lv_ldc (v := (32768 : Int32)) hx hb hown (hts _ q_412) d_Reg_signOf_4 ?_
    refine lv_goto (tgt := 12) hx hb d_Reg_signOf_6 rfl ?_
    exact rt_vs X hr hk hP hS (by rw [f_Reg_signOf, if_neg h1]) d_Reg_signOf_12
set_option maxHeartbeats 4000000 in
set_option maxRecDepth 100000 in
theorem c_Reg_showResult (l : Launch) (D : va_G) (cB cI : ClassId) (a : Nat → Nat) (bz : Nat) (ha : ap a 8) (S : Sc) (x1 x2 : Int32) : MV l y_Reg_showResult b_Reg_showResult 5 rm_Reg_showResult [.ref (a 2), .int x1, .int x2] D cB cI (wdC cB cI a) (ow a 8) bz S (f_Reg_showResult S x1 x2) := by
  refine met_in R_Reg (by decide) rfl (Nat.le_of_ble_eq_true rfl) (wdC_D ha cB cI) ?_
  intro p e s m below meth c ls X hr hk hl hP hS
  have hx := X.1.1
  have hb := X.1.2.1
  have hown := X.1.2.2.2.1
  have hts := X.1.2.2.2.2
  have hl : lv_has ls 5 [(0, .ref (a 2)), (1, .int x1), (2, .int x2)] := hl
  refine lv_iload_n hx hb d_Reg_showResult_0 rfl (lv_at hl 1 rfl) ?_
  refine lv_iload_n hx hb d_Reg_showResult_1 rfl (lv_at hl 2 rfl) ?_
  refine ks_v (rest := [.int (x1)]) X hP hS (c_Reg_signOf l D cB cI a bz ha S x2) (kw_Reg_signOf hts q_409 ⟨Nat.le_of_ble_eq_true rfl, Nat.le_of_ble_eq_true rfl⟩) rfl hl.1 rfl (lv_room (Nat.le_of_ble_eq_true rfl)) d_Reg_showResult_2 (fun H locs hP hS => ?_)
  refine lv_iand hx hb d_Reg_showResult_5 ?_
  refine lv_if_eq (tgt := 15) hx hb d_Reg_showResult_6 rfl (fun h1 => ?_) (fun h1 => ?_)
  ·
    refine lv_iconst (v := (0 : Int32)) hx hb d_Reg_showResult_15 (by decide) ?_
    refine lv_istore_n hx hb d_Reg_showResult_16 rfl hl (Nat.le_of_ble_eq_true rfl) rfl (fun ls hl => ?_)
    have hl : lv_has ls 5 [(3, .int ((0 : Int32))), (0, .ref (a 2)), (1, .int (x1)), (2, .int (x2))] := hl
    refine lv_iload_n hx hb d_Reg_showResult_17 rfl (lv_at hl 2 rfl) ?_
    refine lv_if_ne (tgt := 25) hx hb d_Reg_showResult_18 rfl (fun h2 => ?_) (fun h2 => ?_)
    ·
      refine lv_iconst (v := (0 : Int32)) hx hb d_Reg_showResult_25 (by decide) ?_
      refine lv_istore hx hb d_Reg_showResult_26 hl (Nat.le_of_ble_eq_true rfl) rfl (fun ls hl => ?_)
      have hl : lv_has ls 5 [(4, .int ((0 : Int32))), (3, .int ((0 : Int32))), (0, .ref (a 2)), (1, .int (x1)), (2, .int (x2))] := hl
      refine lv_aload_n hx hb d_Reg_showResult_28 rfl (lv_at hl 2 rfl) ?_
      refine lv_aload_n hx hb d_Reg_showResult_29 rfl (lv_at hl 2 rfl) ?_
      refine gt_Reg X hP 8 (by decide) (v := .int (S.1 8)) q_140 rfl d_Reg_showResult_30 ?_
      refine lv_sipush (v := (-131 : Int32)) hx hb d_Reg_showResult_33 (by decide) ?_
      refine lv_iand hx hb d_Reg_showResult_36 ?_
      refine lv_iload_n hx hb d_Reg_showResult_37 rfl (lv_at hl 1 rfl) ?_
      refine lv_ior hx hb d_Reg_showResult_38 ?_
      refine lv_iload hx hb d_Reg_showResult_39 (lv_at hl 0 rfl) ?_
      refine lv_ior hx hb d_Reg_showResult_41 ?_
      refine pt_Reg X hP hS 8 (by decide) (v := ((((S.1 8) &&& (-131 : Int32)) ||| (0 : Int32)) ||| (0 : Int32))) (S1 := (pr S 8 (((((S.1 8) &&& (-131 : Int32)) ||| (0 : Int32)) ||| (0 : Int32))))) q_140 rfl rfl rfl rfl d_Reg_showResult_42 (fun H locs hP hS => ?_)
      exact rt_s X hr hk hP hS (by rw [f_Reg_showResult, if_pos h1, if_neg h2]) d_Reg_showResult_45
    ·
      refine lv_iconst (v := (2 : Int32)) hx hb d_Reg_showResult_21 (by decide) ?_
      refine lv_goto (tgt := 26) hx hb d_Reg_showResult_22 rfl ?_
      refine lv_istore hx hb d_Reg_showResult_26 hl (Nat.le_of_ble_eq_true rfl) rfl (fun ls hl => ?_)
      have hl : lv_has ls 5 [(4, .int ((2 : Int32))), (3, .int ((0 : Int32))), (0, .ref (a 2)), (1, .int (x1)), (2, .int (x2))] := hl
      refine lv_aload_n hx hb d_Reg_showResult_28 rfl (lv_at hl 2 rfl) ?_
      refine lv_aload_n hx hb d_Reg_showResult_29 rfl (lv_at hl 2 rfl) ?_
      refine gt_Reg X hP 8 (by decide) (v := .int (S.1 8)) q_140 rfl d_Reg_showResult_30 ?_
      refine lv_sipush (v := (-131 : Int32)) hx hb d_Reg_showResult_33 (by decide) ?_
      refine lv_iand hx hb d_Reg_showResult_36 ?_
      refine lv_iload_n hx hb d_Reg_showResult_37 rfl (lv_at hl 1 rfl) ?_
      refine lv_ior hx hb d_Reg_showResult_38 ?_
      refine lv_iload hx hb d_Reg_showResult_39 (lv_at hl 0 rfl) ?_
      refine lv_ior hx hb d_Reg_showResult_41 ?_
      refine pt_Reg X hP hS 8 (by decide) (v := ((((S.1 8) &&& (-131 : Int32)) ||| (0 : Int32)) ||| (2 : Int32))) (S1 := (pr S 8 (((((S.1 8) &&& (-131 : Int32)) ||| (0 : Int32)) ||| (2 : Int32))))) q_140 rfl rfl rfl rfl d_Reg_showResult_42 (fun H locs hP hS => ?_)
      exact rt_s X hr hk hP hS (by rw [f_Reg_showResult, if_pos h1, if_pos h2]) d_Reg_showResult_45
  ·
    refine lv_sipush (v := (128 : Int32)) hx hb d_Reg_showResult_9 (by decide) ?_
    refine lv_goto (tgt := 16) hx hb d_Reg_showResult_12 rfl ?_
    refine lv_istore_n hx hb d_Reg_showResult_16 rfl hl (Nat.le_of_ble_eq_true rfl) rfl (fun ls hl => ?_)
    have hl : lv_has ls 5 [(3, .int ((128 : Int32))), (0, .ref (a 2)), (1, .int (x1)), (2, .int (x2))] := hl
    refine lv_iload_n hx hb d_Reg_showResult_17 rfl (lv_at hl 2 rfl) ?_
    refine lv_if_ne (tgt := 25) hx hb d_Reg_showResult_18 rfl (fun h3 => ?_) (fun h3 => ?_)
    ·
      refine lv_iconst (v := (0 : Int32)) hx hb d_Reg_showResult_25 (by decide) ?_
      refine lv_istore hx hb d_Reg_showResult_26 hl (Nat.le_of_ble_eq_true rfl) rfl (fun ls hl => ?_)
      have hl : lv_has ls 5 [(4, .int ((0 : Int32))), (3, .int ((128 : Int32))), (0, .ref (a 2)), (1, .int (x1)), (2, .int (x2))] := hl
      refine lv_aload_n hx hb d_Reg_showResult_28 rfl (lv_at hl 2 rfl) ?_
      refine lv_aload_n hx hb d_Reg_showResult_29 rfl (lv_at hl 2 rfl) ?_
      refine gt_Reg X hP 8 (by decide) (v := .int (S.1 8)) q_140 rfl d_Reg_showResult_30 ?_
      refine lv_sipush (v := (-131 : Int32)) hx hb d_Reg_showResult_33 (by decide) ?_
      refine lv_iand hx hb d_Reg_showResult_36 ?_
      refine lv_iload_n hx hb d_Reg_showResult_37 rfl (lv_at hl 1 rfl) ?_
      refine lv_ior hx hb d_Reg_showResult_38 ?_
      refine lv_iload hx hb d_Reg_showResult_39 (lv_at hl 0 rfl) ?_
      refine lv_ior hx hb d_Reg_showResult_41 ?_
      refine pt_Reg X hP hS 8 (by decide) (v := ((((S.1 8) &&& (-131 : Int32)) ||| (128 : Int32)) ||| (0 : Int32))) (S1 := (pr S 8 (((((S.1 8) &&& (-131 : Int32)) ||| (128 : Int32)) ||| (0 : Int32))))) q_140 rfl rfl rfl rfl d_Reg_showResult_42 (fun H locs hP hS => ?_)
      exact rt_s X hr hk hP hS (by rw [f_Reg_showResult, if_neg h1, if_neg h3]) d_Reg_showResult_45
    ·
      refine lv_iconst (v := (2 : Int32)) hx hb d_Reg_showResult_21 (by decide) ?_
      refine lv_goto (tgt := 26) hx hb d_Reg_showResult_22 rfl ?_
      refine lv_istore hx hb d_Reg_showResult_26 hl (Nat.le_of_ble_eq_true rfl) rfl (fun ls hl => ?_)
      have hl : lv_has ls 5 [(4, .int ((2 : Int32))), (3, .int ((128 : Int32))), (0, .ref (a 2)), (1, .int (x1)), (2, .int (x2))] := hl
      refine lv_aload_n hx hb d_Reg_showResult_28 rfl (lv_at hl 2 rfl) ?_
      refine lv_aload_n hx hb d_Reg_showResult_29 rfl (lv_at hl 2 rfl) ?_
      refine gt_Reg X hP 8 (by decide) (v := .int (S.1 8)) q_140 rfl d_Reg_showResult_30 ?_
      refine lv_sipush (v := (-131 : Int32)) hx hb d_Reg_showResult_33 (by decide) ?_
      refine lv_iand hx hb d_Reg_showResult_36 ?_
      refine lv_iload_n hx hb d_Reg_showResult_37 rfl (lv_at hl 1 rfl) ?_
      refine lv_ior hx hb d_Reg_showResult_38 ?_
      refine lv_iload hx hb d_Reg_showResult_39 (lv_at hl 0 rfl) ?_
      refine lv_ior hx hb d_Reg_showResult_41 ?_
      refine pt_Reg X hP hS 8 (by decide) (v := ((((S.1 8) &&& (-131 : Int32)) ||| (128 : Int32)) ||| (2 : Int32))) (S1 := (pr S 8 (((((S.1 8) &&& (-131 : Int32)) ||| (128 : Int32)) ||| (2 : Int32))))) q_140 rfl rfl rfl rfl d_Reg_showResult_42 (fun H locs hP hS => ?_)
      exact rt_s X hr hk hP hS (by rw [f_Reg_showResult, if_neg h1, if_pos h3]) d_Reg_showResult_45
set_option maxHeartbeats 4000000 in
set_option maxRecDepth 100000 in
theorem c_Reg_loadA (l : Launch) (D : va_G) (cB cI : ClassId) (a : Nat → Nat) (bz : Nat) (ha : ap a 8) (S : Sc) (x1 : Int32) : MV l y_Reg_loadA b_Reg_loadA 3 rm_Reg_loadA [.ref (a 2), .int x1] D cB cI (wdC cB cI a) (ow a 8) bz S (f_Reg_loadA S x1) := by
  refine met_in R_Reg (by decide) rfl (Nat.le_of_ble_eq_true rfl) (wdC_D ha cB cI) ?_
  intro p e s m below meth c ls X hr hk hl hP hS
  have hx := X.1.1
  have hb := X.1.2.1
  have hown := X.1.2.2.2.1
  have hts := X.1.2.2.2.2
  have hl : lv_has ls 3 [(0, .ref (a 2)), (1, .int x1)] := hl
  refine lv_aload_n hx hb d_Reg_loadA_0 rfl (lv_at hl 0 rfl) ?_
  refine kv_v (rest := []) X hP hS (c_Reg_wideA l D cB cI a bz ha S) (kw_Reg_wideA hts q_400 ⟨Nat.le_of_ble_eq_true rfl, Nat.le_of_ble_eq_true rfl⟩) 2 rfl rfl rfl hl.1 rfl (lv_room (Nat.le_of_ble_eq_true rfl)) d_Reg_loadA_1 (fun H locs hP hS => ?_)
  refine ks_v (rest := []) X hP hS (c_Reg_maskOf l D cB cI a bz ha S (f_Reg_wideA S)) (kw_Reg_maskOf hts q_258 ⟨Nat.le_of_ble_eq_true rfl, Nat.le_of_ble_eq_true rfl⟩) rfl hl.1 rfl (lv_room (Nat.le_of_ble_eq_true rfl)) d_Reg_loadA_4 (fun H locs hP hS => ?_)
  refine lv_istore_n hx hb d_Reg_loadA_7 rfl hl (Nat.le_of_ble_eq_true rfl) rfl (fun ls hl => ?_)
  have hl : lv_has ls 3 [(2, .int ((f_Reg_maskOf (f_Reg_wideA S)))), (0, .ref (a 2)), (1, .int (x1))] := hl
  refine lv_aload_n hx hb d_Reg_loadA_8 rfl (lv_at hl 1 rfl) ?_
  refine lv_aload_n hx hb d_Reg_loadA_9 rfl (lv_at hl 1 rfl) ?_
  refine gt_Reg X hP 0 (by decide) (v := .int (S.1 0)) q_110 rfl d_Reg_loadA_10 ?_
  refine lv_iload_n hx hb d_Reg_loadA_13 rfl (lv_at hl 0 rfl) ?_
  refine lv_iconst (v := (-1 : Int32)) hx hb d_Reg_loadA_14 (by decide) ?_
  refine lv_ixor hx hb d_Reg_loadA_15 ?_
  refine lv_iand hx hb d_Reg_loadA_16 ?_
  refine lv_iload_n hx hb d_Reg_loadA_17 rfl (lv_at hl 2 rfl) ?_
  refine lv_iload_n hx hb d_Reg_loadA_18 rfl (lv_at hl 0 rfl) ?_
  refine lv_iand hx hb d_Reg_loadA_19 ?_
  refine lv_ior hx hb d_Reg_loadA_20 ?_
  refine pt_Reg X hP hS 0 (by decide) (v := (((S.1 0) &&& ((f_Reg_maskOf (f_Reg_wideA S)) ^^^ (-1 : Int32))) ||| (x1 &&& (f_Reg_maskOf (f_Reg_wideA S))))) (S1 := (pr S 0 ((((S.1 0) &&& ((f_Reg_maskOf (f_Reg_wideA S)) ^^^ (-1 : Int32))) ||| (x1 &&& (f_Reg_maskOf (f_Reg_wideA S))))))) q_110 rfl rfl rfl rfl d_Reg_loadA_21 (fun H locs hP hS => ?_)
  refine lv_aload_n hx hb d_Reg_loadA_24 rfl (lv_at hl 1 rfl) ?_
  refine lv_iload_n hx hb d_Reg_loadA_25 rfl (lv_at hl 2 rfl) ?_
  refine lv_iload_n hx hb d_Reg_loadA_26 rfl (lv_at hl 0 rfl) ?_
  refine lv_iand hx hb d_Reg_loadA_27 ?_
  refine lv_aload_n hx hb d_Reg_loadA_28 rfl (lv_at hl 1 rfl) ?_
  refine kv_v (rest := [.int ((x1 &&& (f_Reg_maskOf (f_Reg_wideA S)))), .ref (a 2)]) X hP hS (c_Reg_wideA l D cB cI a bz ha (pr S 0 ((((S.1 0) &&& ((f_Reg_maskOf (f_Reg_wideA S)) ^^^ (-1 : Int32))) ||| (x1 &&& (f_Reg_maskOf (f_Reg_wideA S))))))) (kw_Reg_wideA hts q_400 ⟨Nat.le_of_ble_eq_true rfl, Nat.le_of_ble_eq_true rfl⟩) 2 rfl rfl rfl hl.1 rfl (lv_room (Nat.le_of_ble_eq_true rfl)) d_Reg_loadA_29 (fun H locs hP hS => ?_)
  refine kv_s (rest := []) X hP hS (c_Reg_showResult l D cB cI a bz ha (pr S 0 ((((S.1 0) &&& ((f_Reg_maskOf (f_Reg_wideA S)) ^^^ (-1 : Int32))) ||| (x1 &&& (f_Reg_maskOf (f_Reg_wideA S)))))) (x1 &&& (f_Reg_maskOf (f_Reg_wideA S))) (f_Reg_wideA (pr S 0 ((((S.1 0) &&& ((f_Reg_maskOf (f_Reg_wideA S)) ^^^ (-1 : Int32))) ||| (x1 &&& (f_Reg_maskOf (f_Reg_wideA S)))))))) (kw_Reg_showResult hts q_405 ⟨Nat.le_of_ble_eq_true rfl, Nat.le_of_ble_eq_true rfl⟩) 2 rfl rfl rfl hl.1 rfl (lv_room (Nat.le_of_ble_eq_true rfl)) d_Reg_loadA_32 (fun S1 H locs e2 hP hS => ?_)
  exact rt_s X hr hk hP hS (by rw [f_Reg_loadA, bs_eq e2]) d_Reg_loadA_35
set_option maxHeartbeats 4000000 in
set_option maxRecDepth 100000 in
theorem c_Reg_loadX (l : Launch) (D : va_G) (cB cI : ClassId) (a : Nat → Nat) (bz : Nat) (ha : ap a 8) (S : Sc) (x1 : Int32) : MV l y_Reg_loadX b_Reg_loadX 2 rm_Reg_loadX [.ref (a 2), .int x1] D cB cI (wdC cB cI a) (ow a 8) bz S (f_Reg_loadX S x1) := by
  refine met_in R_Reg (by decide) rfl (Nat.le_of_ble_eq_true rfl) (wdC_D ha cB cI) ?_
  intro p e s m below meth c ls X hr hk hl hP hS
  have hx := X.1.1
  have hb := X.1.2.1
  have hown := X.1.2.2.2.1
  have hts := X.1.2.2.2.2
  have hl : lv_has ls 2 [(0, .ref (a 2)), (1, .int x1)] := hl
  refine lv_aload_n hx hb d_Reg_loadX_0 rfl (lv_at hl 0 rfl) ?_
  refine lv_iload_n hx hb d_Reg_loadX_1 rfl (lv_at hl 1 rfl) ?_
  refine lv_aload_n hx hb d_Reg_loadX_2 rfl (lv_at hl 0 rfl) ?_
  refine kv_v (rest := [.int (x1), .ref (a 2)]) X hP hS (c_Reg_indexMask l D cB cI a bz ha S) (kw_Reg_indexMask hts q_266 ⟨Nat.le_of_ble_eq_true rfl, Nat.le_of_ble_eq_true rfl⟩) 2 rfl rfl rfl hl.1 rfl (lv_room (Nat.le_of_ble_eq_true rfl)) d_Reg_loadX_3 (fun H locs hP hS => ?_)
  refine lv_iand hx hb d_Reg_loadX_6 ?_
  refine pt_Reg X hP hS 1 (by decide) (v := (x1 &&& (f_Reg_indexMask S))) (S1 := (pr S 1 ((x1 &&& (f_Reg_indexMask S))))) q_114 rfl rfl rfl rfl d_Reg_loadX_7 (fun H locs hP hS => ?_)
  refine lv_aload_n hx hb d_Reg_loadX_10 rfl (lv_at hl 0 rfl) ?_
  refine lv_aload_n hx hb d_Reg_loadX_11 rfl (lv_at hl 0 rfl) ?_
  refine gt_Reg X hP 1 (by decide) (v := .int ((x1 &&& (f_Reg_indexMask S)))) q_114 rfl d_Reg_loadX_12 ?_
  refine lv_aload_n hx hb d_Reg_loadX_15 rfl (lv_at hl 0 rfl) ?_
  refine kv_v (rest := [.int ((x1 &&& (f_Reg_indexMask S))), .ref (a 2)]) X hP hS (c_Reg_wideIndex l D cB cI a bz ha (pr S 1 ((x1 &&& (f_Reg_indexMask S))))) (kw_Reg_wideIndex hts q_254 ⟨Nat.le_of_ble_eq_true rfl, Nat.le_of_ble_eq_true rfl⟩) 2 rfl rfl rfl hl.1 rfl (lv_room (Nat.le_of_ble_eq_true rfl)) d_Reg_loadX_16 (fun H locs hP hS => ?_)
  refine kv_s (rest := []) X hP hS (c_Reg_showResult l D cB cI a bz ha (pr S 1 ((x1 &&& (f_Reg_indexMask S)))) (x1 &&& (f_Reg_indexMask S)) (f_Reg_wideIndex (pr S 1 ((x1 &&& (f_Reg_indexMask S)))))) (kw_Reg_showResult hts q_405 ⟨Nat.le_of_ble_eq_true rfl, Nat.le_of_ble_eq_true rfl⟩) 2 rfl rfl rfl hl.1 rfl (lv_room (Nat.le_of_ble_eq_true rfl)) d_Reg_loadX_19 (fun S1 H locs e2 hP hS => ?_)
  exact rt_s X hr hk hP hS (by rw [f_Reg_loadX, bs_eq e2]) d_Reg_loadX_22
set_option maxHeartbeats 4000000 in
set_option maxRecDepth 100000 in
theorem c_Reg_loadY (l : Launch) (D : va_G) (cB cI : ClassId) (a : Nat → Nat) (bz : Nat) (ha : ap a 8) (S : Sc) (x1 : Int32) : MV l y_Reg_loadY b_Reg_loadY 2 rm_Reg_loadY [.ref (a 2), .int x1] D cB cI (wdC cB cI a) (ow a 8) bz S (f_Reg_loadY S x1) := by
  refine met_in R_Reg (by decide) rfl (Nat.le_of_ble_eq_true rfl) (wdC_D ha cB cI) ?_
  intro p e s m below meth c ls X hr hk hl hP hS
  have hx := X.1.1
  have hb := X.1.2.1
  have hown := X.1.2.2.2.1
  have hts := X.1.2.2.2.2
  have hl : lv_has ls 2 [(0, .ref (a 2)), (1, .int x1)] := hl
  refine lv_aload_n hx hb d_Reg_loadY_0 rfl (lv_at hl 0 rfl) ?_
  refine lv_iload_n hx hb d_Reg_loadY_1 rfl (lv_at hl 1 rfl) ?_
  refine lv_aload_n hx hb d_Reg_loadY_2 rfl (lv_at hl 0 rfl) ?_
  refine kv_v (rest := [.int (x1), .ref (a 2)]) X hP hS (c_Reg_indexMask l D cB cI a bz ha S) (kw_Reg_indexMask hts q_266 ⟨Nat.le_of_ble_eq_true rfl, Nat.le_of_ble_eq_true rfl⟩) 2 rfl rfl rfl hl.1 rfl (lv_room (Nat.le_of_ble_eq_true rfl)) d_Reg_loadY_3 (fun H locs hP hS => ?_)
  refine lv_iand hx hb d_Reg_loadY_6 ?_
  refine pt_Reg X hP hS 2 (by decide) (v := (x1 &&& (f_Reg_indexMask S))) (S1 := (pr S 2 ((x1 &&& (f_Reg_indexMask S))))) q_118 rfl rfl rfl rfl d_Reg_loadY_7 (fun H locs hP hS => ?_)
  refine lv_aload_n hx hb d_Reg_loadY_10 rfl (lv_at hl 0 rfl) ?_
  refine lv_aload_n hx hb d_Reg_loadY_11 rfl (lv_at hl 0 rfl) ?_
  refine gt_Reg X hP 2 (by decide) (v := .int ((x1 &&& (f_Reg_indexMask S)))) q_118 rfl d_Reg_loadY_12 ?_
  refine lv_aload_n hx hb d_Reg_loadY_15 rfl (lv_at hl 0 rfl) ?_
  refine kv_v (rest := [.int ((x1 &&& (f_Reg_indexMask S))), .ref (a 2)]) X hP hS (c_Reg_wideIndex l D cB cI a bz ha (pr S 2 ((x1 &&& (f_Reg_indexMask S))))) (kw_Reg_wideIndex hts q_254 ⟨Nat.le_of_ble_eq_true rfl, Nat.le_of_ble_eq_true rfl⟩) 2 rfl rfl rfl hl.1 rfl (lv_room (Nat.le_of_ble_eq_true rfl)) d_Reg_loadY_16 (fun H locs hP hS => ?_)
  refine kv_s (rest := []) X hP hS (c_Reg_showResult l D cB cI a bz ha (pr S 2 ((x1 &&& (f_Reg_indexMask S)))) (x1 &&& (f_Reg_indexMask S)) (f_Reg_wideIndex (pr S 2 ((x1 &&& (f_Reg_indexMask S)))))) (kw_Reg_showResult hts q_405 ⟨Nat.le_of_ble_eq_true rfl, Nat.le_of_ble_eq_true rfl⟩) 2 rfl rfl rfl hl.1 rfl (lv_room (Nat.le_of_ble_eq_true rfl)) d_Reg_loadY_19 (fun S1 H locs e2 hP hS => ?_)
  exact rt_s X hr hk hP hS (by rw [f_Reg_loadY, bs_eq e2]) d_Reg_loadY_22
set_option maxHeartbeats 4000000 in
set_option maxRecDepth 100000 in
theorem c_Reg_loadD (l : Launch) (D : va_G) (cB cI : ClassId) (a : Nat → Nat) (bz : Nat) (ha : ap a 8) (S : Sc) (x1 : Int32) : MV l y_Reg_loadD b_Reg_loadD 2 rm_Reg_loadD [.ref (a 2), .int x1] D cB cI (wdC cB cI a) (ow a 8) bz S (f_Reg_loadD S x1) := by
  refine met_in R_Reg (by decide) rfl (Nat.le_of_ble_eq_true rfl) (wdC_D ha cB cI) ?_
  intro p e s m below meth c ls X hr hk hl hP hS
  have hx := X.1.1
  have hb := X.1.2.1
  have hown := X.1.2.2.2.1
  have hts := X.1.2.2.2.2
  have hl : lv_has ls 2 [(0, .ref (a 2)), (1, .int x1)] := hl
  refine lv_aload_n hx hb d_Reg_loadD_0 rfl (lv_at hl 0 rfl) ?_
  refine lv_iload_n hx hb d_Reg_loadD_1 rfl (lv_at hl 1 rfl) ?_
  refine pt_Reg X hP hS 4 (by decide) (v := x1) (S1 := (pr S 4 (x1))) q_127 rfl rfl rfl rfl d_Reg_loadD_2 (fun H locs hP hS => ?_)
  refine lv_aload_n hx hb d_Reg_loadD_5 rfl (lv_at hl 0 rfl) ?_
  refine lv_aload_n hx hb d_Reg_loadD_6 rfl (lv_at hl 0 rfl) ?_
  refine gt_Reg X hP 4 (by decide) (v := .int (x1)) q_127 rfl d_Reg_loadD_7 ?_
  refine lv_iconst (v := (1 : Int32)) hx hb d_Reg_loadD_10 (by decide) ?_
  refine kv_s (rest := []) X hP hS (c_Reg_showResult l D cB cI a bz ha (pr S 4 (x1)) x1 (1 : Int32)) (kw_Reg_showResult hts q_405 ⟨Nat.le_of_ble_eq_true rfl, Nat.le_of_ble_eq_true rfl⟩) 2 rfl rfl rfl hl.1 rfl (lv_room (Nat.le_of_ble_eq_true rfl)) d_Reg_loadD_11 (fun S1 H locs e2 hP hS => ?_)
  exact rt_s X hr hk hP hS (by rw [f_Reg_loadD, bs_eq e2]) d_Reg_loadD_14
set_option maxHeartbeats 4000000 in
set_option maxRecDepth 100000 in
theorem c_Reg_loadC (l : Launch) (D : va_G) (cB cI : ClassId) (a : Nat → Nat) (bz : Nat) (ha : ap a 8) (S : Sc) (x1 : Int32) : MV l y_Reg_loadC b_Reg_loadC 2 rm_Reg_loadC [.ref (a 2), .int x1] D cB cI (wdC cB cI a) (ow a 8) bz S (f_Reg_loadC S x1) := by
  refine met_in R_Reg (by decide) rfl (Nat.le_of_ble_eq_true rfl) (wdC_D ha cB cI) ?_
  intro p e s m below meth c ls X hr hk hl hP hS
  have hx := X.1.1
  have hb := X.1.2.1
  have hown := X.1.2.2.2.1
  have hts := X.1.2.2.2.2
  have hl : lv_has ls 2 [(0, .ref (a 2)), (1, .int x1)] := hl
  refine lv_aload_n hx hb d_Reg_loadC_0 rfl (lv_at hl 0 rfl) ?_
  refine lv_iload_n hx hb d_Reg_loadC_1 rfl (lv_at hl 1 rfl) ?_
  refine pt_Reg X hP hS 0 (by decide) (v := x1) (S1 := (pr S 0 (x1))) q_110 rfl rfl rfl rfl d_Reg_loadC_2 (fun H locs hP hS => ?_)
  refine lv_aload_n hx hb d_Reg_loadC_5 rfl (lv_at hl 0 rfl) ?_
  refine lv_aload_n hx hb d_Reg_loadC_6 rfl (lv_at hl 0 rfl) ?_
  refine gt_Reg X hP 0 (by decide) (v := .int (x1)) q_110 rfl d_Reg_loadC_7 ?_
  refine lv_iconst (v := (1 : Int32)) hx hb d_Reg_loadC_10 (by decide) ?_
  refine kv_s (rest := []) X hP hS (c_Reg_showResult l D cB cI a bz ha (pr S 0 (x1)) x1 (1 : Int32)) (kw_Reg_showResult hts q_405 ⟨Nat.le_of_ble_eq_true rfl, Nat.le_of_ble_eq_true rfl⟩) 2 rfl rfl rfl hl.1 rfl (lv_room (Nat.le_of_ble_eq_true rfl)) d_Reg_loadC_11 (fun S1 H locs e2 hP hS => ?_)
  exact rt_s X hr hk hP hS (by rw [f_Reg_loadC, bs_eq e2]) d_Reg_loadC_14
set_option maxHeartbeats 4000000 in
set_option maxRecDepth 100000 in
theorem c_Reg_loadDataBank (l : Launch) (D : va_G) (cB cI : ClassId) (a : Nat → Nat) (bz : Nat) (ha : ap a 8) (S : Sc) (x1 : Int32) : MV l y_Reg_loadDataBank b_Reg_loadDataBank 2 rm_Reg_loadDataBank [.ref (a 2), .int x1] D cB cI (wdC cB cI a) (ow a 8) bz S (f_Reg_loadDataBank S x1) := by
  refine met_in R_Reg (by decide) rfl (Nat.le_of_ble_eq_true rfl) (wdC_D ha cB cI) ?_
  intro p e s m below meth c ls X hr hk hl hP hS
  have hx := X.1.1
  have hb := X.1.2.1
  have hown := X.1.2.2.2.1
  have hts := X.1.2.2.2.2
  have hl : lv_has ls 2 [(0, .ref (a 2)), (1, .int x1)] := hl
  refine lv_aload_n hx hb d_Reg_loadDataBank_0 rfl (lv_at hl 0 rfl) ?_
  refine lv_iload_n hx hb d_Reg_loadDataBank_1 rfl (lv_at hl 1 rfl) ?_
  refine pt_Reg X hP hS 5 (by decide) (v := x1) (S1 := (pr S 5 (x1))) q_131 rfl rfl rfl rfl d_Reg_loadDataBank_2 (fun H locs hP hS => ?_)
  refine lv_aload_n hx hb d_Reg_loadDataBank_5 rfl (lv_at hl 0 rfl) ?_
  refine lv_aload_n hx hb d_Reg_loadDataBank_6 rfl (lv_at hl 0 rfl) ?_
  refine gt_Reg X hP 5 (by decide) (v := .int (x1)) q_131 rfl d_Reg_loadDataBank_7 ?_
  refine lv_iconst (v := (0 : Int32)) hx hb d_Reg_loadDataBank_10 (by decide) ?_
  refine kv_s (rest := []) X hP hS (c_Reg_showResult l D cB cI a bz ha (pr S 5 (x1)) x1 (0 : Int32)) (kw_Reg_showResult hts q_405 ⟨Nat.le_of_ble_eq_true rfl, Nat.le_of_ble_eq_true rfl⟩) 2 rfl rfl rfl hl.1 rfl (lv_room (Nat.le_of_ble_eq_true rfl)) d_Reg_loadDataBank_11 (fun S1 H locs e2 hP hS => ?_)
  exact rt_s X hr hk hP hS (by rw [f_Reg_loadDataBank, bs_eq e2]) d_Reg_loadDataBank_14
set_option maxHeartbeats 4000000 in
set_option maxRecDepth 100000 in
theorem c_Reg_jumpTo (l : Launch) (D : va_G) (cB cI : ClassId) (a : Nat → Nat) (bz : Nat) (ha : ap a 8) (S : Sc) (x1 : Int32) : MV l y_Reg_jumpTo b_Reg_jumpTo 2 rm_Reg_jumpTo [.ref (a 2), .int x1] D cB cI (wdC cB cI a) (ow a 8) bz S (f_Reg_jumpTo S x1) := by
  refine met_in R_Reg (by decide) rfl (Nat.le_of_ble_eq_true rfl) (wdC_D ha cB cI) ?_
  intro p e s m below meth c ls X hr hk hl hP hS
  have hx := X.1.1
  have hb := X.1.2.1
  have hown := X.1.2.2.2.1
  have hts := X.1.2.2.2.2
  have hl : lv_has ls 2 [(0, .ref (a 2)), (1, .int x1)] := hl
  refine lv_aload_n hx hb d_Reg_jumpTo_0 rfl (lv_at hl 0 rfl) ?_
  refine lv_iload_n hx hb d_Reg_jumpTo_1 rfl (lv_at hl 1 rfl) ?_
  refine lv_ldc (v := (65535 : Int32)) hx hb hown (hts _ q_261) d_Reg_jumpTo_2 ?_
  refine lv_iand hx hb d_Reg_jumpTo_4 ?_
  refine pt_Reg X hP hS 7 (by decide) (v := (x1 &&& (65535 : Int32))) (S1 := (pr S 7 ((x1 &&& (65535 : Int32))))) q_139 rfl rfl rfl rfl d_Reg_jumpTo_5 (fun H locs hP hS => ?_)
  exact rt_s X hr hk hP hS (by rw [f_Reg_jumpTo]) d_Reg_jumpTo_8
set_option maxHeartbeats 4000000 in
set_option maxRecDepth 100000 in
theorem c_Reg_jumpLong (l : Launch) (D : va_G) (cB cI : ClassId) (a : Nat → Nat) (bz : Nat) (ha : ap a 8) (S : Sc) (x1 : Int32) : MV l y_Reg_jumpLong b_Reg_jumpLong 2 rm_Reg_jumpLong [.ref (a 2), .int x1] D cB cI (wdC cB cI a) (ow a 8) bz S (f_Reg_jumpLong S x1) := by
  refine met_in R_Reg (by decide) rfl (Nat.le_of_ble_eq_true rfl) (wdC_D ha cB cI) ?_
  intro p e s m below meth c ls X hr hk hl hP hS
  have hx := X.1.1
  have hb := X.1.2.1
  have hown := X.1.2.2.2.1
  have hts := X.1.2.2.2.2
  have hl : lv_has ls 2 [(0, .ref (a 2)), (1, .int x1)] := hl
  refine lv_aload_n hx hb d_Reg_jumpLong_0 rfl (lv_at hl 0 rfl) ?_
  refine lv_iload_n hx hb d_Reg_jumpLong_1 rfl (lv_at hl 1 rfl) ?_
  refine lv_bipush (v := (16 : Int32)) hx hb d_Reg_jumpLong_2 (by decide) ?_
  refine lv_ishr hx hb d_Reg_jumpLong_4 ?_
  refine pt_Reg X hP hS 6 (by decide) (v := (x1 >>> ((16 : Int32) &&& 31))) (S1 := (pr S 6 ((x1 >>> ((16 : Int32) &&& 31))))) q_135 rfl rfl rfl rfl d_Reg_jumpLong_5 (fun H locs hP hS => ?_)
  refine lv_aload_n hx hb d_Reg_jumpLong_8 rfl (lv_at hl 0 rfl) ?_
  refine lv_iload_n hx hb d_Reg_jumpLong_9 rfl (lv_at hl 1 rfl) ?_
  refine lv_ldc (v := (65535 : Int32)) hx hb hown (hts _ q_261) d_Reg_jumpLong_10 ?_
  refine lv_iand hx hb d_Reg_jumpLong_12 ?_
  refine pt_Reg X hP hS 7 (by decide) (v := (x1 &&& (65535 : Int32))) (S1 := (pr (pr S 6 ((x1 >>> ((16 : Int32) &&& 31)))) 7 ((x1 &&& (65535 : Int32))))) q_139 rfl rfl rfl rfl d_Reg_jumpLong_13 (fun H locs hP hS => ?_)
  exact rt_s X hr hk hP hS (by rw [f_Reg_jumpLong]) d_Reg_jumpLong_16
