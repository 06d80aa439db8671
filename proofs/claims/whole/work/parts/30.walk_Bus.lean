set_option maxHeartbeats 4000000 in
set_option maxRecDepth 100000 in
theorem c_Bus_bank0Place (l : Launch) (D : va_G) (cB cI : ClassId) (a : Nat → Nat) (bz : Nat) (ha : ap a 8) (S : Sc) (x0 : Int32) : MI l y_Bus_bank0Place b_Bus_bank0Place 1 (some .int) rm_Bus_bank0Place [.int x0] D cB cI (wdC cB cI a) (ow a 8) bz S (f_Bus_bank0Place x0, S) := by
  refine met_in R_Bus (by decide) rfl (Nat.le_of_ble_eq_true rfl) (wdC_D ha cB cI) ?_
  intro p e s m below meth c ls X hr hk hl hP hS
  have hx := X.1.1
  have hb := X.1.2.1
  have hown := X.1.2.2.2.1
  have hts := X.1.2.2.2.2
  have hl : lv_has ls 1 [(0, .int x0)] := hl
  refine lv_ldc (v := (16777216 : Int32)) hx hb hown (hts _ q_290) d_Bus_bank0Place_0 ?_
  refine lv_iload_n hx hb d_Bus_bank0Place_2 rfl (lv_at hl 0 rfl) ?_
  refine lv_ldc (v := (65535 : Int32)) hx hb hown (hts _ q_291) d_Bus_bank0Place_3 ?_
  refine lv_iand hx hb d_Bus_bank0Place_5 ?_
  refine lv_ior hx hb d_Bus_bank0Place_6 ?_
  exact rt_vs X hr hk hP hS (by rw [f_Bus_bank0Place]) d_Bus_bank0Place_7
set_option maxHeartbeats 4000000 in
set_option maxRecDepth 100000 in
theorem c_Bus_cellOf (l : Launch) (D : va_G) (cB cI : ClassId) (a : Nat → Nat) (bz : Nat) (ha : ap a 8) (S : Sc) (x0 : Int32) : MI l y_Bus_cellOf b_Bus_cellOf 1 (some .int) rm_Bus_cellOf [.int x0] D cB cI (wdC cB cI a) (ow a 8) bz S (f_Bus_cellOf x0, S) := by
  refine met_in R_Bus (by decide) rfl (Nat.le_of_ble_eq_true rfl) (wdC_D ha cB cI) ?_
  intro p e s m below meth c ls X hr hk hl hP hS
  have hx := X.1.1
  have hb := X.1.2.1
  have hown := X.1.2.2.2.1
  have hts := X.1.2.2.2.2
  have hl : lv_has ls 1 [(0, .int x0)] := hl
  refine lv_iload_n hx hb d_Bus_cellOf_0 rfl (lv_at hl 0 rfl) ?_
  refine lv_bipush (v := (7 : Int32)) hx hb d_Bus_cellOf_1 (by decide) ?_
  refine lv_ishr hx hb d_Bus_cellOf_3 ?_
  refine lv_sipush (v := (512 : Int32)) hx hb d_Bus_cellOf_4 (by decide) ?_
  refine lv_iand hx hb d_Bus_cellOf_7 ?_
  refine lv_iload_n hx hb d_Bus_cellOf_8 rfl (lv_at hl 0 rfl) ?_
  refine lv_sipush (v := (511 : Int32)) hx hb d_Bus_cellOf_9 (by decide) ?_
  refine lv_iand hx hb d_Bus_cellOf_12 ?_
  refine lv_ior hx hb d_Bus_cellOf_13 ?_
  exact rt_vs X hr hk hP hS (by rw [f_Bus_cellOf]) d_Bus_cellOf_14
set_option maxHeartbeats 4000000 in
set_option maxRecDepth 100000 in
theorem c_Bus_writeByte (l : Launch) (D : va_G) (cB cI : ClassId) (a : Nat → Nat) (bz : Nat) (ha : ap a 8) (S : Sc) (x1 x2 : Int32) : MV l y_Bus_writeByte b_Bus_writeByte 4 rm_Bus_writeByte [.ref (a 1), .int x1, .int x2] D cB cI (wdC cB cI a) (ow a 8) bz S (f_Bus_writeByte S x1 x2) := by
  refine met_in R_Bus (by decide) rfl (Nat.le_of_ble_eq_true rfl) (wdC_D ha cB cI) ?_
  intro p e s m below meth c ls X hr hk hl hP hS
  have hx := X.1.1
  have hb := X.1.2.1
  have hown := X.1.2.2.2.1
  have hts := X.1.2.2.2.2
  have hl : lv_has ls 4 [(0, .ref (a 1)), (1, .int x1), (2, .int x2)] := hl
  refine lv_iload_n hx hb d_Bus_writeByte_0 rfl (lv_at hl 1 rfl) ?_
  refine ks_v (rest := []) X hP hS (c_Bus_cellOf l D cB cI a bz ha S x1) (kw_Bus_cellOf hts q_296 ⟨Nat.le_of_ble_eq_true rfl, Nat.le_of_ble_eq_true rfl⟩) rfl hl.1 rfl (lv_room (Nat.le_of_ble_eq_true rfl)) d_Bus_writeByte_1 (fun H locs hP hS => ?_)
  refine lv_istore_n hx hb d_Bus_writeByte_4 rfl hl (Nat.le_of_ble_eq_true rfl) rfl (fun ls hl => ?_)
  have hl : lv_has ls 4 [(3, .int ((f_Bus_cellOf x1))), (0, .ref (a 1)), (1, .int (x1)), (2, .int (x2))] := hl
  refine lv_aload_n hx hb d_Bus_writeByte_5 rfl (lv_at hl 1 rfl) ?_
  refine gt_Bus X hP 1 (by decide) (v := .ref (a 7)) q_90 rfl d_Bus_writeByte_6 ?_
  refine lv_aload_n hx hb d_Bus_writeByte_9 rfl (lv_at hl 1 rfl) ?_
  refine gt_Bus X hP 2 (by decide) (v := .int (S.1 9)) q_91 rfl d_Bus_writeByte_10 ?_
  refine lv_bipush (v := (7 : Int32)) hx hb d_Bus_writeByte_13 (by decide) ?_
  refine lv_iand hx hb d_Bus_writeByte_15 ?_
  refine lv_iload_n hx hb d_Bus_writeByte_16 rfl (lv_at hl 0 rfl) ?_
  refine lv_sipush (v := (1024 : Int32)) hx hb d_Bus_writeByte_17 (by decide) ?_
  refine lv_iadd hx hb d_Bus_writeByte_20 ?_
  refine wri_ X hP hS 7 rfl (S1 := (pl S ((((S.1 9) &&& (7 : Int32))).toNatClampNeg) (((f_Bus_cellOf x1) + (1024 : Int32))))) (in_and7 _) rfl d_Bus_writeByte_21 (fun H locs hP hS => ?_)
  refine lv_aload_n hx hb d_Bus_writeByte_22 rfl (lv_at hl 1 rfl) ?_
  refine lv_dup hx hb d_Bus_writeByte_23 rfl ?_
  refine gt_Bus X hP 2 (by decide) (v := .int (S.1 9)) q_91 rfl d_Bus_writeByte_24 ?_
  refine lv_iconst (v := (1 : Int32)) hx hb d_Bus_writeByte_27 (by decide) ?_
  refine lv_iadd hx hb d_Bus_writeByte_28 ?_
  refine pt_Bus X hP hS 2 (by decide) (v := ((S.1 9) + (1 : Int32))) (S1 := (pr (pl S ((((S.1 9) &&& (7 : Int32))).toNatClampNeg) (((f_Bus_cellOf x1) + (1024 : Int32)))) 9 (((S.1 9) + (1 : Int32))))) q_91 rfl rfl rfl rfl d_Bus_writeByte_29 (fun H locs hP hS => ?_)
  refine lv_aload_n hx hb d_Bus_writeByte_32 rfl (lv_at hl 1 rfl) ?_
  refine gt_Bus X hP 0 (by decide) (v := .ref (a 6)) q_88 rfl d_Bus_writeByte_33 ?_
  refine lv_iload_n hx hb d_Bus_writeByte_36 rfl (lv_at hl 0 rfl) ?_
  refine lv_iload_n hx hb d_Bus_writeByte_37 rfl (lv_at hl 3 rfl) ?_
  refine lv_i2b hx hb d_Bus_writeByte_38 rfl ?_
  refine wrb_ X hP hS 6 rfl (S1 := (pm (pr (pl S ((((S.1 9) &&& (7 : Int32))).toNatClampNeg) (((f_Bus_cellOf x1) + (1024 : Int32)))) 9 (((S.1 9) + (1 : Int32)))) (((f_Bus_cellOf x1)).toNatClampNeg) (vp_nar .byte ((x2).toInt8.toInt32)))) (in_cellOf _) rfl d_Bus_writeByte_39 (fun H locs hP hS => ?_)
  exact rt_s X hr hk hP hS (by rw [f_Bus_writeByte]) d_Bus_writeByte_40
set_option maxHeartbeats 4000000 in
set_option maxRecDepth 100000 in
theorem c_Bus_readByte (l : Launch) (D : va_G) (cB cI : ClassId) (a : Nat → Nat) (bz : Nat) (ha : ap a 8) (S : Sc) (x1 : Int32) : MI l y_Bus_readByte b_Bus_readByte 3 (some .int) rm_Bus_readByte [.ref (a 1), .int x1] D cB cI (wdC cB cI a) (ow a 8) bz S (f_Bus_readByte S x1) := by
  refine met_in R_Bus (by decide) rfl (Nat.le_of_ble_eq_true rfl) (wdC_D ha cB cI) ?_
  intro p e s m below meth c ls X hr hk hl hP hS
  have hx := X.1.1
  have hb := X.1.2.1
  have hown := X.1.2.2.2.1
  have hts := X.1.2.2.2.2
  have hl : lv_has ls 3 [(0, .ref (a 1)), (1, .int x1)] := hl
  refine lv_iload_n hx hb d_Bus_readByte_0 rfl (lv_at hl 1 rfl) ?_
  refine ks_v (rest := []) X hP hS (c_Bus_cellOf l D cB cI a bz ha S x1) (kw_Bus_cellOf hts q_296 ⟨Nat.le_of_ble_eq_true rfl, Nat.le_of_ble_eq_true rfl⟩) rfl hl.1 rfl (lv_room (Nat.le_of_ble_eq_true rfl)) d_Bus_readByte_1 (fun H locs hP hS => ?_)
  refine lv_istore_n hx hb d_Bus_readByte_4 rfl hl (Nat.le_of_ble_eq_true rfl) rfl (fun ls hl => ?_)
  have hl : lv_has ls 3 [(2, .int ((f_Bus_cellOf x1))), (0, .ref (a 1)), (1, .int (x1))] := hl
  refine lv_aload_n hx hb d_Bus_readByte_5 rfl (lv_at hl 1 rfl) ?_
  refine gt_Bus X hP 1 (by decide) (v := .ref (a 7)) q_90 rfl d_Bus_readByte_6 ?_
  refine lv_aload_n hx hb d_Bus_readByte_9 rfl (lv_at hl 1 rfl) ?_
  refine gt_Bus X hP 2 (by decide) (v := .int (S.1 9)) q_91 rfl d_Bus_readByte_10 ?_
  refine lv_bipush (v := (7 : Int32)) hx hb d_Bus_readByte_13 (by decide) ?_
  refine lv_iand hx hb d_Bus_readByte_15 ?_
  refine lv_iload_n hx hb d_Bus_readByte_16 rfl (lv_at hl 0 rfl) ?_
  refine wri_ X hP hS 7 rfl (S1 := (pl S ((((S.1 9) &&& (7 : Int32))).toNatClampNeg) ((f_Bus_cellOf x1)))) (in_and7 _) rfl d_Bus_readByte_17 (fun H locs hP hS => ?_)
  refine lv_aload_n hx hb d_Bus_readByte_18 rfl (lv_at hl 1 rfl) ?_
  refine lv_dup hx hb d_Bus_readByte_19 rfl ?_
  refine gt_Bus X hP 2 (by decide) (v := .int (S.1 9)) q_91 rfl d_Bus_readByte_20 ?_
  refine lv_iconst (v := (1 : Int32)) hx hb d_Bus_readByte_23 (by decide) ?_
  refine lv_iadd hx hb d_Bus_readByte_24 ?_
  refine pt_Bus X hP hS 2 (by decide) (v := ((S.1 9) + (1 : Int32))) (S1 := (pr (pl S ((((S.1 9) &&& (7 : Int32))).toNatClampNeg) ((f_Bus_cellOf x1))) 9 (((S.1 9) + (1 : Int32))))) q_91 rfl rfl rfl rfl d_Bus_readByte_25 (fun H locs hP hS => ?_)
  refine lv_aload_n hx hb d_Bus_readByte_28 rfl (lv_at hl 1 rfl) ?_
  refine gt_Bus X hP 0 (by decide) (v := .ref (a 6)) q_88 rfl d_Bus_readByte_29 ?_
  refine lv_iload_n hx hb d_Bus_readByte_32 rfl (lv_at hl 0 rfl) ?_
  refine rdb_ X hP 6 rfl (v := S.2.1 ((f_Bus_cellOf x1)).toNatClampNeg) (in_cellOf _) rfl d_Bus_readByte_33 ?_
  refine lv_sipush (v := (255 : Int32)) hx hb d_Bus_readByte_34 (by decide) ?_
  refine lv_iand hx hb d_Bus_readByte_37 ?_
  exact rt_vs X hr hk hP hS (by rw [f_Bus_readByte]) d_Bus_readByte_38
set_option maxHeartbeats 4000000 in
set_option maxRecDepth 100000 in
theorem c_Bus_longPlace (l : Launch) (D : va_G) (cB cI : ClassId) (a : Nat → Nat) (bz : Nat) (ha : ap a 8) (S : Sc) (x0 : Int32) : MI l y_Bus_longPlace b_Bus_longPlace 1 (some .int) rm_Bus_longPlace [.int x0] D cB cI (wdC cB cI a) (ow a 8) bz S (f_Bus_longPlace x0, S) := by
  refine met_in R_Bus (by decide) rfl (Nat.le_of_ble_eq_true rfl) (wdC_D ha cB cI) ?_
  intro p e s m below meth c ls X hr hk hl hP hS
  have hx := X.1.1
  have hb := X.1.2.1
  have hown := X.1.2.2.2.1
  have hts := X.1.2.2.2.2
  have hl : lv_has ls 1 [(0, .int x0)] := hl
  refine lv_iload_n hx hb d_Bus_longPlace_0 rfl (lv_at hl 0 rfl) ?_
  refine lv_ldc (v := (16777215 : Int32)) hx hb hown (hts _ q_325) d_Bus_longPlace_1 ?_
  refine lv_iand hx hb d_Bus_longPlace_3 ?_
  exact rt_vs X hr hk hP hS (by rw [f_Bus_longPlace]) d_Bus_longPlace_4
set_option maxHeartbeats 4000000 in
set_option maxRecDepth 100000 in
theorem c_Bus_placeAfter (l : Launch) (D : va_G) (cB cI : ClassId) (a : Nat → Nat) (bz : Nat) (ha : ap a 8) (S : Sc) (x0 : Int32) : MI l y_Bus_placeAfter b_Bus_placeAfter 1 (some .int) rm_Bus_placeAfter [.int x0] D cB cI (wdC cB cI a) (ow a 8) bz S (f_Bus_placeAfter x0, S) := by
  refine met_in R_Bus (by decide) rfl (Nat.le_of_ble_eq_true rfl) (wdC_D ha cB cI) ?_
  intro p e s m below meth c ls X hr hk hl hP hS
  have hx := X.1.1
  have hb := X.1.2.1
  have hown := X.1.2.2.2.1
  have hts := X.1.2.2.2.2
  have hl : lv_has ls 1 [(0, .int x0)] := hl
  refine lv_iload_n hx hb d_Bus_placeAfter_0 rfl (lv_at hl 0 rfl) ?_
  refine lv_ldc (v := (16777216 : Int32)) hx hb hown (hts _ q_290) d_Bus_placeAfter_1 ?_
  refine lv_iand hx hb d_Bus_placeAfter_3 ?_
  refine lv_if_eq (tgt := 16) hx hb d_Bus_placeAfter_4 rfl (fun h1 => ?_) (fun h1 => ?_)
  ·
    refine lv_iload_n hx hb d_Bus_placeAfter_16 rfl (lv_at hl 0 rfl) ?_
    refine lv_iconst (v := (1 : Int32)) hx hb d_Bus_placeAfter_17 (by decide) ?_
    refine lv_iadd hx hb d_Bus_placeAfter_18 ?_
    refine ks_v (rest := []) X hP hS (c_Bus_longPlace l D cB cI a bz ha S (x0 + (1 : Int32))) (kw_Bus_longPlace hts q_322 ⟨Nat.le_of_ble_eq_true rfl, Nat.le_of_ble_eq_true rfl⟩) rfl hl.1 rfl (lv_room (Nat.le_of_ble_eq_true rfl)) d_Bus_placeAfter_19 (fun H locs hP hS => ?_)
    exact rt_vs X hr hk hP hS (by rw [f_Bus_placeAfter, if_pos h1]) d_Bus_placeAfter_22
  ·
    refine lv_iload_n hx hb d_Bus_placeAfter_7 rfl (lv_at hl 0 rfl) ?_
    refine lv_iconst (v := (1 : Int32)) hx hb d_Bus_placeAfter_8 (by decide) ?_
    refine lv_iadd hx hb d_Bus_placeAfter_9 ?_
    refine ks_v (rest := []) X hP hS (c_Bus_bank0Place l D cB cI a bz ha S (x0 + (1 : Int32))) (kw_Bus_bank0Place hts q_321 ⟨Nat.le_of_ble_eq_true rfl, Nat.le_of_ble_eq_true rfl⟩) rfl hl.1 rfl (lv_room (Nat.le_of_ble_eq_true rfl)) d_Bus_placeAfter_10 (fun H locs hP hS => ?_)
    refine lv_goto (tgt := 22) hx hb d_Bus_placeAfter_13 rfl ?_
    exact rt_vs X hr hk hP hS (by rw [f_Bus_placeAfter, if_neg h1]) d_Bus_placeAfter_22
set_option maxHeartbeats 4000000 in
set_option maxRecDepth 100000 in
theorem c_Bus_readWord (l : Launch) (D : va_G) (cB cI : ClassId) (a : Nat → Nat) (bz : Nat) (ha : ap a 8) (S : Sc) (x1 : Int32) : MI l y_Bus_readWord b_Bus_readWord 3 (some .int) rm_Bus_readWord [.ref (a 1), .int x1] D cB cI (wdC cB cI a) (ow a 8) bz S (f_Bus_readWord S x1) := by
  refine met_in R_Bus (by decide) rfl (Nat.le_of_ble_eq_true rfl) (wdC_D ha cB cI) ?_
  intro p e s m below meth c ls X hr hk hl hP hS
  have hx := X.1.1
  have hb := X.1.2.1
  have hown := X.1.2.2.2.1
  have hts := X.1.2.2.2.2
  have hl : lv_has ls 3 [(0, .ref (a 1)), (1, .int x1)] := hl
  refine lv_aload_n hx hb d_Bus_readWord_0 rfl (lv_at hl 0 rfl) ?_
  refine lv_iload_n hx hb d_Bus_readWord_1 rfl (lv_at hl 1 rfl) ?_
  refine kv_vs (rest := []) X hP hS (c_Bus_readByte l D cB cI a bz ha S x1) (kw_Bus_readByte hts q_314 ⟨Nat.le_of_ble_eq_true rfl, Nat.le_of_ble_eq_true rfl⟩) 1 rfl rfl rfl hl.1 rfl (lv_room (Nat.le_of_ble_eq_true rfl)) d_Bus_readWord_2 (fun r1 S2 H locs e3 hP hS => ?_)
  refine lv_istore_n hx hb d_Bus_readWord_5 rfl hl (Nat.le_of_ble_eq_true rfl) rfl (fun ls hl => ?_)
  have hl : lv_has ls 3 [(2, .int (r1)), (0, .ref (a 1)), (1, .int (x1))] := hl
  refine lv_iload_n hx hb d_Bus_readWord_6 rfl (lv_at hl 0 rfl) ?_
  refine lv_aload_n hx hb d_Bus_readWord_7 rfl (lv_at hl 1 rfl) ?_
  refine lv_iload_n hx hb d_Bus_readWord_8 rfl (lv_at hl 2 rfl) ?_
  refine ks_v (rest := [.ref (a 1), .int (r1)]) X hP hS (c_Bus_placeAfter l D cB cI a bz ha S2 x1) (kw_Bus_placeAfter hts q_318 ⟨Nat.le_of_ble_eq_true rfl, Nat.le_of_ble_eq_true rfl⟩) rfl hl.1 rfl (lv_room (Nat.le_of_ble_eq_true rfl)) d_Bus_readWord_9 (fun H locs hP hS => ?_)
  refine kv_vs (rest := [.int (r1)]) X hP hS (c_Bus_readByte l D cB cI a bz ha S2 (f_Bus_placeAfter x1)) (kw_Bus_readByte hts q_314 ⟨Nat.le_of_ble_eq_true rfl, Nat.le_of_ble_eq_true rfl⟩) 1 rfl rfl rfl hl.1 rfl (lv_room (Nat.le_of_ble_eq_true rfl)) d_Bus_readWord_12 (fun r4 S5 H locs e6 hP hS => ?_)
  refine lv_bipush (v := (8 : Int32)) hx hb d_Bus_readWord_15 (by decide) ?_
  refine lv_ishl hx hb d_Bus_readWord_17 ?_
  refine lv_ior hx hb d_Bus_readWord_18 ?_
  exact rt_vs X hr hk hP hS (by rw [f_Bus_readWord, bn_eq e3, bn_eq e6]) d_Bus_readWord_19
set_option maxHeartbeats 4000000 in
set_option maxRecDepth 100000 in
theorem c_Bus_programByte (l : Launch) (D : va_G) (cB cI : ClassId) (a : Nat → Nat) (bz : Nat) (ha : ap a 8) (S : Sc) (x1 x2 : Int32) : MI l y_Bus_programByte b_Bus_programByte 3 (some .int) rm_Bus_programByte [.ref (a 1), .int x1, .int x2] D cB cI (wdC cB cI a) (ow a 8) bz S (f_Bus_programByte S x1 x2, S) := by
  refine met_in R_Bus (by decide) rfl (Nat.le_of_ble_eq_true rfl) (wdC_D ha cB cI) ?_
  intro p e s m below meth c ls X hr hk hl hP hS
  have hx := X.1.1
  have hb := X.1.2.1
  have hown := X.1.2.2.2.1
  have hts := X.1.2.2.2.2
  have hl : lv_has ls 3 [(0, .ref (a 1)), (1, .int x1), (2, .int x2)] := hl
  refine lv_aload_n hx hb d_Bus_programByte_0 rfl (lv_at hl 0 rfl) ?_
  refine gt_Bus X hP 0 (by decide) (v := .ref (a 6)) q_88 rfl d_Bus_programByte_1 ?_
  refine lv_sipush (v := (512 : Int32)) hx hb d_Bus_programByte_4 (by decide) ?_
  refine lv_iload_n hx hb d_Bus_programByte_7 rfl (lv_at hl 1 rfl) ?_
  refine lv_iconst (v := (1 : Int32)) hx hb d_Bus_programByte_8 (by decide) ?_
  refine lv_iand hx hb d_Bus_programByte_9 ?_
  refine lv_imul hx hb d_Bus_programByte_10 ?_
  refine lv_iload_n hx hb d_Bus_programByte_11 rfl (lv_at hl 2 rfl) ?_
  refine lv_sipush (v := (511 : Int32)) hx hb d_Bus_programByte_12 (by decide) ?_
  refine lv_iand hx hb d_Bus_programByte_15 ?_
  refine lv_iadd hx hb d_Bus_programByte_16 ?_
  refine rdb_ X hP 6 rfl (v := S.2.1 ((((512 : Int32) * (x1 &&& (1 : Int32))) + (x2 &&& (511 : Int32)))).toNatClampNeg) (in_prog _ _) rfl d_Bus_programByte_17 ?_
  refine lv_sipush (v := (255 : Int32)) hx hb d_Bus_programByte_18 (by decide) ?_
  refine lv_iand hx hb d_Bus_programByte_21 ?_
  exact rt_vs X hr hk hP hS (by rw [f_Bus_programByte]) d_Bus_programByte_22
set_option maxHeartbeats 4000000 in
set_option maxRecDepth 100000 in
theorem c_Bus_readLong (l : Launch) (D : va_G) (cB cI : ClassId) (a : Nat → Nat) (bz : Nat) (ha : ap a 8) (S : Sc) (x1 : Int32) : MI l y_Bus_readLong b_Bus_readLong 5 (some .int) rm_Bus_readLong [.ref (a 1), .int x1] D cB cI (wdC cB cI a) (ow a 8) bz S (f_Bus_readLong S x1) := by
  refine met_in R_Bus (by decide) rfl (Nat.le_of_ble_eq_true rfl) (wdC_D ha cB cI) ?_
  intro p e s m below meth c ls X hr hk hl hP hS
  have hx := X.1.1
  have hb := X.1.2.1
  have hown := X.1.2.2.2.1
  have hts := X.1.2.2.2.2
  have hl : lv_has ls 5 [(0, .ref (a 1)), (1, .int x1)] := hl
  refine lv_iload_n hx hb d_Bus_readLong_0 rfl (lv_at hl 1 rfl) ?_
  refine ks_v (rest := []) X hP hS (c_Bus_placeAfter l D cB cI a bz ha S x1) (kw_Bus_placeAfter hts q_318 ⟨Nat.le_of_ble_eq_true rfl, Nat.le_of_ble_eq_true rfl⟩) rfl hl.1 rfl (lv_room (Nat.le_of_ble_eq_true rfl)) d_Bus_readLong_1 (fun H locs hP hS => ?_)
  refine lv_istore_n hx hb d_Bus_readLong_4 rfl hl (Nat.le_of_ble_eq_true rfl) rfl (fun ls hl => ?_)
  have hl : lv_has ls 5 [(2, .int ((f_Bus_placeAfter x1))), (0, .ref (a 1)), (1, .int (x1))] := hl
  refine lv_aload_n hx hb d_Bus_readLong_5 rfl (lv_at hl 1 rfl) ?_
  refine lv_iload_n hx hb d_Bus_readLong_6 rfl (lv_at hl 2 rfl) ?_
  refine kv_vs (rest := []) X hP hS (c_Bus_readByte l D cB cI a bz ha S x1) (kw_Bus_readByte hts q_314 ⟨Nat.le_of_ble_eq_true rfl, Nat.le_of_ble_eq_true rfl⟩) 1 rfl rfl rfl hl.1 rfl (lv_room (Nat.le_of_ble_eq_true rfl)) d_Bus_readLong_7 (fun r1 S2 H locs e3 hP hS => ?_)
  refine lv_istore_n hx hb d_Bus_readLong_10 rfl hl (Nat.le_of_ble_eq_true rfl) rfl (fun ls hl => ?_)
  have hl : lv_has ls 5 [(3, .int (r1)), (2, .int ((f_Bus_placeAfter x1))), (0, .ref (a 1)), (1, .int (x1))] := hl
  refine lv_aload_n hx hb d_Bus_readLong_11 rfl (lv_at hl 2 rfl) ?_
  refine lv_iload_n hx hb d_Bus_readLong_12 rfl (lv_at hl 1 rfl) ?_
  refine kv_vs (rest := []) X hP hS (c_Bus_readByte l D cB cI a bz ha S2 (f_Bus_placeAfter x1)) (kw_Bus_readByte hts q_314 ⟨Nat.le_of_ble_eq_true rfl, Nat.le_of_ble_eq_true rfl⟩) 1 rfl rfl rfl hl.1 rfl (lv_room (Nat.le_of_ble_eq_true rfl)) d_Bus_readLong_13 (fun r4 S5 H locs e6 hP hS => ?_)
  refine lv_istore hx hb d_Bus_readLong_16 hl (Nat.le_of_ble_eq_true rfl) rfl (fun ls hl => ?_)
  have hl : lv_has ls 5 [(4, .int (r4)), (3, .int (r1)), (2, .int ((f_Bus_placeAfter x1))), (0, .ref (a 1)), (1, .int (x1))] := hl
  refine lv_iload_n hx hb d_Bus_readLong_18 rfl (lv_at hl 1 rfl) ?_
  refine lv_iload hx hb d_Bus_readLong_19 (lv_at hl 0 rfl) ?_
  refine lv_bipush (v := (8 : Int32)) hx hb d_Bus_readLong_21 (by decide) ?_
  refine lv_ishl hx hb d_Bus_readLong_23 ?_
  refine lv_ior hx hb d_Bus_readLong_24 ?_
  refine lv_aload_n hx hb d_Bus_readLong_25 rfl (lv_at hl 3 rfl) ?_
  refine lv_iload_n hx hb d_Bus_readLong_26 rfl (lv_at hl 2 rfl) ?_
  refine ks_v (rest := [.ref (a 1), .int ((r1 ||| (r4 <<< ((8 : Int32) &&& 31))))]) X hP hS (c_Bus_placeAfter l D cB cI a bz ha S5 (f_Bus_placeAfter x1)) (kw_Bus_placeAfter hts q_318 ⟨Nat.le_of_ble_eq_true rfl, Nat.le_of_ble_eq_true rfl⟩) rfl hl.1 rfl (lv_room (Nat.le_of_ble_eq_true rfl)) d_Bus_readLong_27 (fun H locs hP hS => ?_)
  refine kv_vs (rest := [.int ((r1 ||| (r4 <<< ((8 : Int32) &&& 31))))]) X hP hS (c_Bus_readByte l D cB cI a bz ha S5 (f_Bus_placeAfter (f_Bus_placeAfter x1))) (kw_Bus_readByte hts q_314 ⟨Nat.le_of_ble_eq_true rfl, Nat.le_of_ble_eq_true rfl⟩) 1 rfl rfl rfl hl.1 rfl (lv_room (Nat.le_of_ble_eq_true rfl)) d_Bus_readLong_30 (fun r7 S8 H locs e9 hP hS => ?_)
  refine lv_bipush (v := (16 : Int32)) hx hb d_Bus_readLong_33 (by decide) ?_
  refine lv_ishl hx hb d_Bus_readLong_35 ?_
  refine lv_ior hx hb d_Bus_readLong_36 ?_
  exact rt_vs X hr hk hP hS (by rw [f_Bus_readLong, bn_eq e3, bn_eq e6, bn_eq e9]) d_Bus_readLong_37
set_option maxHeartbeats 4000000 in
set_option maxRecDepth 100000 in
theorem c_Bus_writeValue (l : Launch) (D : va_G) (cB cI : ClassId) (a : Nat → Nat) (bz : Nat) (ha : ap a 8) (S : Sc) (x1 x2 x3 : Int32) : MV l y_Bus_writeValue b_Bus_writeValue 4 rm_Bus_writeValue [.ref (a 1), .int x1, .int x2, .int x3] D cB cI (wdC cB cI a) (ow a 8) bz S (f_Bus_writeValue S x1 x2 x3) := by
  refine met_in R_Bus (by decide) rfl (Nat.le_of_ble_eq_true rfl) (wdC_D ha cB cI) ?_
  intro p e s m below meth c ls X hr hk hl hP hS
  have hx := X.1.1
  have hb := X.1.2.1
  have hown := X.1.2.2.2.1
  have hts := X.1.2.2.2.2
  have hl : lv_has ls 4 [(0, .ref (a 1)), (1, .int x1), (2, .int x2), (3, .int x3)] := hl
  refine lv_aload_n hx hb d_Bus_writeValue_0 rfl (lv_at hl 0 rfl) ?_
  refine lv_iload_n hx hb d_Bus_writeValue_1 rfl (lv_at hl 1 rfl) ?_
  refine lv_iload_n hx hb d_Bus_writeValue_2 rfl (lv_at hl 2 rfl) ?_
  refine kv_s (rest := []) X hP hS (c_Bus_writeByte l D cB cI a bz ha S x1 x2) (kw_Bus_writeByte hts q_386 ⟨Nat.le_of_ble_eq_true rfl, Nat.le_of_ble_eq_true rfl⟩) 1 rfl rfl rfl hl.1 rfl (lv_room (Nat.le_of_ble_eq_true rfl)) d_Bus_writeValue_3 (fun S1 H locs e2 hP hS => ?_)
  refine lv_iload_n hx hb d_Bus_writeValue_6 rfl (lv_at hl 3 rfl) ?_
  refine lv_if_eq (tgt := 22) hx hb d_Bus_writeValue_7 rfl (fun h3 => ?_) (fun h3 => ?_)
  ·
    exact rt_s X hr hk hP hS (by rw [f_Bus_writeValue, bs_eq e2, if_pos h3]) d_Bus_writeValue_22
  ·
    refine lv_aload_n hx hb d_Bus_writeValue_10 rfl (lv_at hl 0 rfl) ?_
    refine lv_iload_n hx hb d_Bus_writeValue_11 rfl (lv_at hl 1 rfl) ?_
    refine ks_v (rest := [.ref (a 1)]) X hP hS (c_Bus_placeAfter l D cB cI a bz ha S1 x1) (kw_Bus_placeAfter hts q_318 ⟨Nat.le_of_ble_eq_true rfl, Nat.le_of_ble_eq_true rfl⟩) rfl hl.1 rfl (lv_room (Nat.le_of_ble_eq_true rfl)) d_Bus_writeValue_12 (fun H locs hP hS => ?_)
    refine lv_iload_n hx hb d_Bus_writeValue_15 rfl (lv_at hl 2 rfl) ?_
    refine lv_bipush (v := (8 : Int32)) hx hb d_Bus_writeValue_16 (by decide) ?_
    refine lv_ishr hx hb d_Bus_writeValue_18 ?_
    refine kv_s (rest := []) X hP hS (c_Bus_writeByte l D cB cI a bz ha S1 (f_Bus_placeAfter x1) (x2 >>> ((8 : Int32) &&& 31))) (kw_Bus_writeByte hts q_386 ⟨Nat.le_of_ble_eq_true rfl, Nat.le_of_ble_eq_true rfl⟩) 1 rfl rfl rfl hl.1 rfl (lv_room (Nat.le_of_ble_eq_true rfl)) d_Bus_writeValue_19 (fun S4 H locs e5 hP hS => ?_)
    exact rt_s X hr hk hP hS (by rw [f_Bus_writeValue, bs_eq e2, if_neg h3, bs_eq e5]) d_Bus_writeValue_22
set_option maxHeartbeats 4000000 in
set_option maxRecDepth 100000 in
theorem c_Bus_readValue (l : Launch) (D : va_G) (cB cI : ClassId) (a : Nat → Nat) (bz : Nat) (ha : ap a 8) (S : Sc) (x1 x2 : Int32) : MI l y_Bus_readValue b_Bus_readValue 3 (some .int) rm_Bus_readValue [.ref (a 1), .int x1, .int x2] D cB cI (wdC cB cI a) (ow a 8) bz S (f_Bus_readValue S x1 x2) := by
  refine met_in R_Bus (by decide) rfl (Nat.le_of_ble_eq_true rfl) (wdC_D ha cB cI) ?_
  intro p e s m below meth c ls X hr hk hl hP hS
  have hx := X.1.1
  have hb := X.1.2.1
  have hown := X.1.2.2.2.1
  have hts := X.1.2.2.2.2
  have hl : lv_has ls 3 [(0, .ref (a 1)), (1, .int x1), (2, .int x2)] := hl
  refine lv_iload_n hx hb d_Bus_readValue_0 rfl (lv_at hl 2 rfl) ?_
  refine lv_if_eq (tgt := 12) hx hb d_Bus_readValue_1 rfl (fun h1 => ?_) (fun h1 => ?_)
  ·
    refine lv_aload_n hx hb d_Bus_readValue_12 rfl (lv_at hl 0 rfl) ?_
    refine lv_iload_n hx hb d_Bus_readValue_13 rfl (lv_at hl 1 rfl) ?_
    refine kv_vs (rest := []) X hP hS (c_Bus_readByte l D cB cI a bz ha S x1) (kw_Bus_readByte hts q_314 ⟨Nat.le_of_ble_eq_true rfl, Nat.le_of_ble_eq_true rfl⟩) 1 rfl rfl rfl hl.1 rfl (lv_room (Nat.le_of_ble_eq_true rfl)) d_Bus_readValue_14 (fun r2 S3 H locs e4 hP hS => ?_)
    exact rt_vs X hr hk hP hS (by rw [f_Bus_readValue, if_pos h1, bn_eq e4]) d_Bus_readValue_17
  ·
    refine lv_aload_n hx hb d_Bus_readValue_4 rfl (lv_at hl 0 rfl) ?_
    refine lv_iload_n hx hb d_Bus_readValue_5 rfl (lv_at hl 1 rfl) ?_
    refine kv_vs (rest := []) X hP hS (c_Bus_readWord l D cB cI a bz ha S x1) (kw_Bus_readWord hts q_395 ⟨Nat.le_of_ble_eq_true rfl, Nat.le_of_ble_eq_true rfl⟩) 1 rfl rfl rfl hl.1 rfl (lv_room (Nat.le_of_ble_eq_true rfl)) d_Bus_readValue_6 (fun r5 S6 H locs e7 hP hS => ?_)
    refine lv_goto (tgt := 17) hx hb d_Bus_readValue_9 rfl ?_
    exact rt_vs X hr hk hP hS (by rw [f_Bus_readValue, if_neg h1, bn_eq e7]) d_Bus_readValue_17
set_option maxHeartbeats 4000000 in
set_option maxRecDepth 100000 in
theorem c_Bus_latestTouch (l : Launch) (D : va_G) (cB cI : ClassId) (a : Nat → Nat) (bz : Nat) (ha : ap a 8) (S : Sc) (x1 : Int32) : MI l y_Bus_latestTouch b_Bus_latestTouch 2 (some .int) rm_Bus_latestTouch [.ref (a 1), .int x1] D cB cI (wdC cB cI a) (ow a 8) bz S (f_Bus_latestTouch S x1, S) := by
  refine met_in R_Bus (by decide) rfl (Nat.le_of_ble_eq_true rfl) (wdC_D ha cB cI) ?_
  intro p e s m below meth c ls X hr hk hl hP hS
  have hx := X.1.1
  have hb := X.1.2.1
  have hown := X.1.2.2.2.1
  have hts := X.1.2.2.2.2
  have hl : lv_has ls 2 [(0, .ref (a 1)), (1, .int x1)] := hl
  refine lv_aload_n hx hb d_Bus_latestTouch_0 rfl (lv_at hl 0 rfl) ?_
  refine gt_Bus X hP 1 (by decide) (v := .ref (a 7)) q_90 rfl d_Bus_latestTouch_1 ?_
  refine lv_aload_n hx hb d_Bus_latestTouch_4 rfl (lv_at hl 0 rfl) ?_
  refine gt_Bus X hP 2 (by decide) (v := .int (S.1 9)) q_91 rfl d_Bus_latestTouch_5 ?_
  refine lv_iconst (v := (1 : Int32)) hx hb d_Bus_latestTouch_8 (by decide) ?_
  refine lv_isub hx hb d_Bus_latestTouch_9 ?_
  refine lv_iload_n hx hb d_Bus_latestTouch_10 rfl (lv_at hl 1 rfl) ?_
  refine lv_isub hx hb d_Bus_latestTouch_11 ?_
  refine lv_bipush (v := (7 : Int32)) hx hb d_Bus_latestTouch_12 (by decide) ?_
  refine lv_iand hx hb d_Bus_latestTouch_14 ?_
  refine rdi_ X hP 7 rfl (v := S.2.2 (((((S.1 9) - (1 : Int32)) - x1) &&& (7 : Int32))).toNatClampNeg) (in_and7 _) rfl d_Bus_latestTouch_15 ?_
  exact rt_vs X hr hk hP hS (by rw [f_Bus_latestTouch]) d_Bus_latestTouch_16
