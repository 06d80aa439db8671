set_option maxHeartbeats 4000000 in
set_option maxRecDepth 100000 in
theorem c_Prc_enterInterrupt (l : Launch) (D : va_G) (cB cI : ClassId) (a : Nat → Nat) (bz : Nat) (ha : ap a 8) (S : Sc) (x1 : Int32) : MV l y_Prc_enterInterrupt b_Prc_enterInterrupt 2 rm_Prc_enterInterrupt [.ref (a 3), .int x1] D cB cI (wdC cB cI a) (ow a 8) bz S (f_Prc_enterInterrupt S x1) := by
  refine met_in R_Prc (by decide) rfl (Nat.le_of_ble_eq_true rfl) (wdC_D ha cB cI) ?_
  intro p e s m below meth c ls X hr hk hl hP hS
  have hx := X.1.1
  have hb := X.1.2.1
  have hown := X.1.2.2.2.1
  have hts := X.1.2.2.2.2
  have hl : lv_has ls 2 [(0, .ref (a 3)), (1, .int x1)] := hl
  refine lv_aload_n hx hb d_Prc_enterInterrupt_0 rfl (lv_at hl 0 rfl) ?_
  refine gt_Prc X hP 3 (by decide) (v := .ref (a 5)) q_197 rfl d_Prc_enterInterrupt_1 ?_
  refine lv_aload_n hx hb d_Prc_enterInterrupt_4 rfl (lv_at hl 0 rfl) ?_
  refine gt_Prc X hP 1 (by decide) (v := .ref (a 2)) q_195 rfl d_Prc_enterInterrupt_5 ?_
  refine gt_Reg X hP 6 (by decide) (v := .int (S.1 6)) q_132 rfl d_Prc_enterInterrupt_8 ?_
  refine kv_s (rest := []) X hP hS (c_Stk_pushByte l D cB cI a bz ha S (S.1 6)) (kw_Stk_pushByte hts q_283 ⟨Nat.le_of_ble_eq_true rfl, Nat.le_of_ble_eq_true rfl⟩) 5 rfl rfl rfl hl.1 rfl (lv_room (Nat.le_of_ble_eq_true rfl)) d_Prc_enterInterrupt_11 (fun S1 H locs e2 hP hS => ?_)
  refine lv_aload_n hx hb d_Prc_enterInterrupt_14 rfl (lv_at hl 0 rfl) ?_
  refine gt_Prc X hP 3 (by decide) (v := .ref (a 5)) q_197 rfl d_Prc_enterInterrupt_15 ?_
  refine lv_aload_n hx hb d_Prc_enterInterrupt_18 rfl (lv_at hl 0 rfl) ?_
  refine gt_Prc X hP 1 (by decide) (v := .ref (a 2)) q_195 rfl d_Prc_enterInterrupt_19 ?_
  refine gt_Reg X hP 7 (by decide) (v := .int (S1.1 7)) q_137 rfl d_Prc_enterInterrupt_22 ?_
  refine kv_s (rest := []) X hP hS (c_Stk_pushWord l D cB cI a bz ha S1 (S1.1 7)) (kw_Stk_pushWord hts q_300 ⟨Nat.le_of_ble_eq_true rfl, Nat.le_of_ble_eq_true rfl⟩) 5 rfl rfl rfl hl.1 rfl (lv_room (Nat.le_of_ble_eq_true rfl)) d_Prc_enterInterrupt_25 (fun S3 H locs e4 hP hS => ?_)
  refine lv_aload_n hx hb d_Prc_enterInterrupt_28 rfl (lv_at hl 0 rfl) ?_
  refine gt_Prc X hP 3 (by decide) (v := .ref (a 5)) q_197 rfl d_Prc_enterInterrupt_29 ?_
  refine lv_aload_n hx hb d_Prc_enterInterrupt_32 rfl (lv_at hl 0 rfl) ?_
  refine gt_Prc X hP 1 (by decide) (v := .ref (a 2)) q_195 rfl d_Prc_enterInterrupt_33 ?_
  refine gt_Reg X hP 8 (by decide) (v := .int (S3.1 8)) q_141 rfl d_Prc_enterInterrupt_36 ?_
  refine kv_s (rest := []) X hP hS (c_Stk_pushByte l D cB cI a bz ha S3 (S3.1 8)) (kw_Stk_pushByte hts q_283 ⟨Nat.le_of_ble_eq_true rfl, Nat.le_of_ble_eq_true rfl⟩) 5 rfl rfl rfl hl.1 rfl (lv_room (Nat.le_of_ble_eq_true rfl)) d_Prc_enterInterrupt_39 (fun S5 H locs e6 hP hS => ?_)
  refine lv_aload_n hx hb d_Prc_enterInterrupt_42 rfl (lv_at hl 0 rfl) ?_
  refine gt_Prc X hP 1 (by decide) (v := .ref (a 2)) q_195 rfl d_Prc_enterInterrupt_43 ?_
  refine lv_iconst (v := (4 : Int32)) hx hb d_Prc_enterInterrupt_46 (by decide) ?_
  refine lv_iconst (v := (1 : Int32)) hx hb d_Prc_enterInterrupt_47 (by decide) ?_
  refine kv_s (rest := []) X hP hS (c_Reg_putFlag l D cB cI a bz ha S5 (4 : Int32) (1 : Int32)) (kw_Reg_putFlag hts q_305 ⟨Nat.le_of_ble_eq_true rfl, Nat.le_of_ble_eq_true rfl⟩) 2 rfl rfl rfl hl.1 rfl (lv_room (Nat.le_of_ble_eq_true rfl)) d_Prc_enterInterrupt_48 (fun S7 H locs e8 hP hS => ?_)
  refine lv_aload_n hx hb d_Prc_enterInterrupt_51 rfl (lv_at hl 0 rfl) ?_
  refine gt_Prc X hP 1 (by decide) (v := .ref (a 2)) q_195 rfl d_Prc_enterInterrupt_52 ?_
  refine lv_bipush (v := (8 : Int32)) hx hb d_Prc_enterInterrupt_55 (by decide) ?_
  refine lv_iconst (v := (0 : Int32)) hx hb d_Prc_enterInterrupt_57 (by decide) ?_
  refine kv_s (rest := []) X hP hS (c_Reg_putFlag l D cB cI a bz ha S7 (8 : Int32) (0 : Int32)) (kw_Reg_putFlag hts q_305 ⟨Nat.le_of_ble_eq_true rfl, Nat.le_of_ble_eq_true rfl⟩) 2 rfl rfl rfl hl.1 rfl (lv_room (Nat.le_of_ble_eq_true rfl)) d_Prc_enterInterrupt_58 (fun S9 H locs e10 hP hS => ?_)
  refine lv_aload_n hx hb d_Prc_enterInterrupt_61 rfl (lv_at hl 0 rfl) ?_
  refine gt_Prc X hP 1 (by decide) (v := .ref (a 2)) q_195 rfl d_Prc_enterInterrupt_62 ?_
  refine lv_iconst (v := (0 : Int32)) hx hb d_Prc_enterInterrupt_65 (by decide) ?_
  refine pt_Reg X hP hS 6 (by decide) (v := (0 : Int32)) (S1 := (pr S9 6 ((0 : Int32)))) q_132 rfl rfl rfl rfl d_Prc_enterInterrupt_66 (fun H locs hP hS => ?_)
  refine lv_aload_n hx hb d_Prc_enterInterrupt_69 rfl (lv_at hl 0 rfl) ?_
  refine gt_Prc X hP 1 (by decide) (v := .ref (a 2)) q_195 rfl d_Prc_enterInterrupt_70 ?_
  refine lv_aload_n hx hb d_Prc_enterInterrupt_73 rfl (lv_at hl 0 rfl) ?_
  refine gt_Prc X hP 0 (by decide) (v := .ref (a 1)) q_194 rfl d_Prc_enterInterrupt_74 ?_
  refine lv_iload_n hx hb d_Prc_enterInterrupt_77 rfl (lv_at hl 1 rfl) ?_
  refine ks_v (rest := [.ref (a 1), .ref (a 2)]) X hP hS (c_Bus_bank0Place l D cB cI a bz ha (pr S9 6 ((0 : Int32))) x1) (kw_Bus_bank0Place hts q_309 ⟨Nat.le_of_ble_eq_true rfl, Nat.le_of_ble_eq_true rfl⟩) rfl hl.1 rfl (lv_room (Nat.le_of_ble_eq_true rfl)) d_Prc_enterInterrupt_78 (fun H locs hP hS => ?_)
  refine kv_vs (rest := [.ref (a 2)]) X hP hS (c_Bus_readWord l D cB cI a bz ha (pr S9 6 ((0 : Int32))) (f_Bus_bank0Place x1)) (kw_Bus_readWord hts q_310 ⟨Nat.le_of_ble_eq_true rfl, Nat.le_of_ble_eq_true rfl⟩) 1 rfl rfl rfl hl.1 rfl (lv_room (Nat.le_of_ble_eq_true rfl)) d_Prc_enterInterrupt_81 (fun r11 S12 H locs e13 hP hS => ?_)
  refine pt_Reg X hP hS 7 (by decide) (v := r11) (S1 := (pr S12 7 (r11))) q_137 rfl rfl rfl rfl d_Prc_enterInterrupt_84 (fun H locs hP hS => ?_)
  exact rt_s X hr hk hP hS (by rw [f_Prc_enterInterrupt, bs_eq e2, bs_eq e4, bs_eq e6, bs_eq e8, bs_eq e10, bn_eq e13]) d_Prc_enterInterrupt_87
set_option maxHeartbeats 4000000 in
set_option maxRecDepth 100000 in
theorem c_Prc_addToA (l : Launch) (D : va_G) (cB cI : ClassId) (a : Nat → Nat) (bz : Nat) (ha : ap a 8) (S : Sc) (x1 : Int32) : MV l y_Prc_addToA b_Prc_addToA 6 rm_Prc_addToA [.ref (a 3), .int x1] D cB cI (wdC cB cI a) (ow a 8) bz S (f_Prc_addToA S x1) := by
  refine met_in R_Prc (by decide) rfl (Nat.le_of_ble_eq_true rfl) (wdC_D ha cB cI) ?_
  intro p e s m below meth c ls X hr hk hl hP hS
  have hx := X.1.1
  have hb := X.1.2.1
  have hown := X.1.2.2.2.1
  have hts := X.1.2.2.2.2
  have hl : lv_has ls 6 [(0, .ref (a 3)), (1, .int x1)] := hl
  refine lv_aload_n hx hb d_Prc_addToA_0 rfl (lv_at hl 0 rfl) ?_
  refine gt_Prc X hP 1 (by decide) (v := .ref (a 2)) q_195 rfl d_Prc_addToA_1 ?_
  refine kv_v (rest := []) X hP hS (c_Reg_wideA l D cB cI a bz ha S) (kw_Reg_wideA hts q_346 ⟨Nat.le_of_ble_eq_true rfl, Nat.le_of_ble_eq_true rfl⟩) 2 rfl rfl rfl hl.1 rfl (lv_room (Nat.le_of_ble_eq_true rfl)) d_Prc_addToA_4 (fun H locs hP hS => ?_)
  refine lv_istore_n hx hb d_Prc_addToA_7 rfl hl (Nat.le_of_ble_eq_true rfl) rfl (fun ls hl => ?_)
  have hl : lv_has ls 6 [(2, .int ((f_Reg_wideA S))), (0, .ref (a 3)), (1, .int (x1))] := hl
  refine lv_aload_n hx hb d_Prc_addToA_8 rfl (lv_at hl 1 rfl) ?_
  refine gt_Prc X hP 1 (by decide) (v := .ref (a 2)) q_195 rfl d_Prc_addToA_9 ?_
  refine kv_v (rest := []) X hP hS (c_Reg_a l D cB cI a bz ha S) (kw_Reg_a hts q_396 ⟨Nat.le_of_ble_eq_true rfl, Nat.le_of_ble_eq_true rfl⟩) 2 rfl rfl rfl hl.1 rfl (lv_room (Nat.le_of_ble_eq_true rfl)) d_Prc_addToA_12 (fun H locs hP hS => ?_)
  refine lv_istore_n hx hb d_Prc_addToA_15 rfl hl (Nat.le_of_ble_eq_true rfl) rfl (fun ls hl => ?_)
  have hl : lv_has ls 6 [(3, .int ((f_Reg_a S))), (2, .int ((f_Reg_wideA S))), (0, .ref (a 3)), (1, .int (x1))] := hl
  refine lv_iload_n hx hb d_Prc_addToA_16 rfl (lv_at hl 0 rfl) ?_
  refine lv_iload_n hx hb d_Prc_addToA_17 rfl (lv_at hl 3 rfl) ?_
  refine lv_iadd hx hb d_Prc_addToA_18 ?_
  refine lv_aload_n hx hb d_Prc_addToA_19 rfl (lv_at hl 2 rfl) ?_
  refine gt_Prc X hP 1 (by decide) (v := .ref (a 2)) q_195 rfl d_Prc_addToA_20 ?_
  refine gt_Reg X hP 8 (by decide) (v := .int (S.1 8)) q_141 rfl d_Prc_addToA_23 ?_
  refine lv_iconst (v := (1 : Int32)) hx hb d_Prc_addToA_26 (by decide) ?_
  refine lv_iand hx hb d_Prc_addToA_27 ?_
  refine lv_iadd hx hb d_Prc_addToA_28 ?_
  refine lv_istore hx hb d_Prc_addToA_29 hl (Nat.le_of_ble_eq_true rfl) rfl (fun ls hl => ?_)
  have hl : lv_has ls 6 [(4, .int ((((f_Reg_a S) + x1) + ((S.1 8) &&& (1 : Int32))))), (3, .int ((f_Reg_a S))), (2, .int ((f_Reg_wideA S))), (0, .ref (a 3)), (1, .int (x1))] := hl
  refine lv_iload_n hx hb d_Prc_addToA_31 rfl (lv_at hl 1 rfl) ?_
  refine lv_iload_n hx hb d_Prc_addToA_32 rfl (lv_at hl 4 rfl) ?_
  refine lv_ixor hx hb d_Prc_addToA_33 ?_
  refine lv_iconst (v := (-1 : Int32)) hx hb d_Prc_addToA_34 (by decide) ?_
  refine lv_ixor hx hb d_Prc_addToA_35 ?_
  refine lv_iload_n hx hb d_Prc_addToA_36 rfl (lv_at hl 1 rfl) ?_
  refine lv_iload hx hb d_Prc_addToA_37 (lv_at hl 0 rfl) ?_
  refine lv_ixor hx hb d_Prc_addToA_39 ?_
  refine lv_iand hx hb d_Prc_addToA_40 ?_
  refine lv_iload_n hx hb d_Prc_addToA_41 rfl (lv_at hl 2 rfl) ?_
  refine ks_v (rest := [.int (((((f_Reg_a S) ^^^ x1) ^^^ (-1 : Int32)) &&& ((f_Reg_a S) ^^^ (((f_Reg_a S) + x1) + ((S.1 8) &&& (1 : Int32))))))]) X hP hS (c_Reg_signOf l D cB cI a bz ha S (f_Reg_wideA S)) (kw_Reg_signOf hts q_417 ⟨Nat.le_of_ble_eq_true rfl, Nat.le_of_ble_eq_true rfl⟩) rfl hl.1 rfl (lv_room (Nat.le_of_ble_eq_true rfl)) d_Prc_addToA_42 (fun H locs hP hS => ?_)
  refine lv_iand hx hb d_Prc_addToA_45 ?_
  refine lv_istore hx hb d_Prc_addToA_46 hl (Nat.le_of_ble_eq_true rfl) rfl (fun ls hl => ?_)
  have hl : lv_has ls 6 [(5, .int ((((((f_Reg_a S) ^^^ x1) ^^^ (-1 : Int32)) &&& ((f_Reg_a S) ^^^ (((f_Reg_a S) + x1) + ((S.1 8) &&& (1 : Int32))))) &&& (f_Reg_signOf (f_Reg_wideA S))))), (4, .int ((((f_Reg_a S) + x1) + ((S.1 8) &&& (1 : Int32))))), (3, .int ((f_Reg_a S))), (2, .int ((f_Reg_wideA S))), (0, .ref (a 3)), (1, .int (x1))] := hl
  refine lv_aload_n hx hb d_Prc_addToA_48 rfl (lv_at hl 4 rfl) ?_
  refine gt_Prc X hP 1 (by decide) (v := .ref (a 2)) q_195 rfl d_Prc_addToA_49 ?_
  refine lv_bipush (v := (64 : Int32)) hx hb d_Prc_addToA_52 (by decide) ?_
  refine lv_iload hx hb d_Prc_addToA_54 (lv_at hl 0 rfl) ?_
  refine lv_if_eq (tgt := 63) hx hb d_Prc_addToA_56 rfl (fun h1 => ?_) (fun h1 => ?_)
  ·
    refine lv_iconst (v := (0 : Int32)) hx hb d_Prc_addToA_63 (by decide) ?_
    refine kv_s (rest := []) X hP hS (c_Reg_putFlag l D cB cI a bz ha S (64 : Int32) (0 : Int32)) (kw_Reg_putFlag hts q_305 ⟨Nat.le_of_ble_eq_true rfl, Nat.le_of_ble_eq_true rfl⟩) 2 rfl rfl rfl hl.1 rfl (lv_room (Nat.le_of_ble_eq_true rfl)) d_Prc_addToA_64 (fun S2 H locs e3 hP hS => ?_)
    refine lv_aload_n hx hb d_Prc_addToA_67 rfl (lv_at hl 4 rfl) ?_
    refine gt_Prc X hP 1 (by decide) (v := .ref (a 2)) q_195 rfl d_Prc_addToA_68 ?_
    refine lv_iconst (v := (1 : Int32)) hx hb d_Prc_addToA_71 (by decide) ?_
    refine lv_iload hx hb d_Prc_addToA_72 (lv_at hl 1 rfl) ?_
    refine lv_iload_n hx hb d_Prc_addToA_74 rfl (lv_at hl 3 rfl) ?_
    refine ks_v (rest := [.int ((((f_Reg_a S) + x1) + ((S.1 8) &&& (1 : Int32)))), .int ((1 : Int32)), .ref (a 2)]) X hP hS (c_Reg_maskOf l D cB cI a bz ha S2 (f_Reg_wideA S)) (kw_Reg_maskOf hts q_418 ⟨Nat.le_of_ble_eq_true rfl, Nat.le_of_ble_eq_true rfl⟩) rfl hl.1 rfl (lv_room (Nat.le_of_ble_eq_true rfl)) d_Prc_addToA_75 (fun H locs hP hS => ?_)
    refine lv_icmp_le (tgt := 85) hx hb d_Prc_addToA_78 rfl (fun h4 => ?_) (fun h4 => ?_)
    ·
      refine lv_iconst (v := (0 : Int32)) hx hb d_Prc_addToA_85 (by decide) ?_
      refine kv_s (rest := []) X hP hS (c_Reg_putFlag l D cB cI a bz ha S2 (1 : Int32) (0 : Int32)) (kw_Reg_putFlag hts q_305 ⟨Nat.le_of_ble_eq_true rfl, Nat.le_of_ble_eq_true rfl⟩) 2 rfl rfl rfl hl.1 rfl (lv_room (Nat.le_of_ble_eq_true rfl)) d_Prc_addToA_86 (fun S5 H locs e6 hP hS => ?_)
      refine lv_aload_n hx hb d_Prc_addToA_89 rfl (lv_at hl 4 rfl) ?_
      refine gt_Prc X hP 1 (by decide) (v := .ref (a 2)) q_195 rfl d_Prc_addToA_90 ?_
      refine lv_iload hx hb d_Prc_addToA_93 (lv_at hl 1 rfl) ?_
      refine kv_s (rest := []) X hP hS (c_Reg_loadA l D cB cI a bz ha S5 (((f_Reg_a S) + x1) + ((S.1 8) &&& (1 : Int32)))) (kw_Reg_loadA hts q_401 ⟨Nat.le_of_ble_eq_true rfl, Nat.le_of_ble_eq_true rfl⟩) 2 rfl rfl rfl hl.1 rfl (lv_room (Nat.le_of_ble_eq_true rfl)) d_Prc_addToA_95 (fun S7 H locs e8 hP hS => ?_)
      exact rt_s X hr hk hP hS (by rw [f_Prc_addToA, if_pos h1, bs_eq e3, if_pos h4, bs_eq e6, bs_eq e8]) d_Prc_addToA_98
    ·
      refine lv_iconst (v := (1 : Int32)) hx hb d_Prc_addToA_81 (by decide) ?_
      refine lv_goto (tgt := 86) hx hb d_Prc_addToA_82 rfl ?_
      refine kv_s (rest := []) X hP hS (c_Reg_putFlag l D cB cI a bz ha S2 (1 : Int32) (1 : Int32)) (kw_Reg_putFlag hts q_305 ⟨Nat.le_of_ble_eq_true rfl, Nat.le_of_ble_eq_true rfl⟩) 2 rfl rfl rfl hl.1 rfl (lv_room (Nat.le_of_ble_eq_true rfl)) d_Prc_addToA_86 (fun S9 H locs e10 hP hS => ?_)
      refine lv_aload_n hx hb d_Prc_addToA_89 rfl (lv_at hl 4 rfl) ?_
      refine gt_Prc X hP 1 (by decide) (v := .ref (a 2)) q_195 rfl d_Prc_addToA_90 ?_
      refine lv_iload hx hb d_Prc_addToA_93 (lv_at hl 1 rfl) ?_
      refine kv_s (rest := []) X hP hS (c_Reg_loadA l D cB cI a bz ha S9 (((f_Reg_a S) + x1) + ((S.1 8) &&& (1 : Int32)))) (kw_Reg_loadA hts q_401 ⟨Nat.le_of_ble_eq_true rfl, Nat.le_of_ble_eq_true rfl⟩) 2 rfl rfl rfl hl.1 rfl (lv_room (Nat.le_of_ble_eq_true rfl)) d_Prc_addToA_95 (fun S11 H locs e12 hP hS => ?_)
      exact rt_s X hr hk hP hS (by rw [f_Prc_addToA, if_pos h1, bs_eq e3, if_neg h4, bs_eq e10, bs_eq e12]) d_Prc_addToA_98
  ·
    refine lv_iconst (v := (1 : Int32)) hx hb d_Prc_addToA_59 (by decide) ?_
    refine lv_goto (tgt := 64) hx hb d_Prc_addToA_60 rfl ?_
    refine kv_s (rest := []) X hP hS (c_Reg_putFlag l D cB cI a bz ha S (64 : Int32) (1 : Int32)) (kw_Reg_putFlag hts q_305 ⟨Nat.le_of_ble_eq_true rfl, Nat.le_of_ble_eq_true rfl⟩) 2 rfl rfl rfl hl.1 rfl (lv_room (Nat.le_of_ble_eq_true rfl)) d_Prc_addToA_64 (fun S13 H locs e14 hP hS => ?_)
    refine lv_aload_n hx hb d_Prc_addToA_67 rfl (lv_at hl 4 rfl) ?_
    refine gt_Prc X hP 1 (by decide) (v := .ref (a 2)) q_195 rfl d_Prc_addToA_68 ?_
    refine lv_iconst (v := (1 : Int32)) hx hb d_Prc_addToA_71 (by decide) ?_
    refine lv_iload hx hb d_Prc_addToA_72 (lv_at hl 1 rfl) ?_
    refine lv_iload_n hx hb d_Prc_addToA_74 rfl (lv_at hl 3 rfl) ?_
    refine ks_v (rest := [.int ((((f_Reg_a S) + x1) + ((S.1 8) &&& (1 : Int32)))), .int ((1 : Int32)), .ref (a 2)]) X hP hS (c_Reg_maskOf l D cB cI a bz ha S13 (f_Reg_wideA S)) (kw_Reg_maskOf hts q_418 ⟨Nat.le_of_ble_eq_true rfl, Nat.le_of_ble_eq_true rfl⟩) rfl hl.1 rfl (lv_room (Nat.le_of_ble_eq_true rfl)) d_Prc_addToA_75 (fun H locs hP hS => ?_)
    refine lv_icmp_le (tgt := 85) hx hb d_Prc_addToA_78 rfl (fun h15 => ?_) (fun h15 => ?_)
    ·
      refine lv_iconst (v := (0 : Int32)) hx hb d_Prc_addToA_85 (by decide) ?_
      refine kv_s (rest := []) X hP hS (c_Reg_putFlag l D cB cI a bz ha S13 (1 : Int32) (0 : Int32)) (kw_Reg_putFlag hts q_305 ⟨Nat.le_of_ble_eq_true rfl, Nat.le_of_ble_eq_true rfl⟩) 2 rfl rfl rfl hl.1 rfl (lv_room (Nat.le_of_ble_eq_true rfl)) d_Prc_addToA_86 (fun S16 H locs e17 hP hS => ?_)
      refine lv_aload_n hx hb d_Prc_addToA_89 rfl (lv_at hl 4 rfl) ?_
      refine gt_Prc X hP 1 (by decide) (v := .ref (a 2)) q_195 rfl d_Prc_addToA_90 ?_
      refine lv_iload hx hb d_Prc_addToA_93 (lv_at hl 1 rfl) ?_
      refine kv_s (rest := []) X hP hS (c_Reg_loadA l D cB cI a bz ha S16 (((f_Reg_a S) + x1) + ((S.1 8) &&& (1 : Int32)))) (kw_Reg_loadA hts q_401 ⟨Nat.le_of_ble_eq_true rfl, Nat.le_of_ble_eq_true rfl⟩) 2 rfl rfl rfl hl.1 rfl (lv_room (Nat.le_of_ble_eq_true rfl)) d_Prc_addToA_95 (fun S18 H locs e19 hP hS => ?_)
      exact rt_s X hr hk hP hS (by rw [f_Prc_addToA, if_neg h1, bs_eq e14, if_pos h15, bs_eq e17, bs_eq e19]) d_Prc_addToA_98
    ·
      refine lv_iconst (v := (1 : Int32)) hx hb d_Prc_addToA_81 (by decide) ?_
      refine lv_goto (tgt := 86) hx hb d_Prc_addToA_82 rfl ?_
      refine kv_s (rest := []) X hP hS (c_Reg_putFlag l D cB cI a bz ha S13 (1 : Int32) (1 : Int32)) (kw_Reg_putFlag hts q_305 ⟨Nat.le_of_ble_eq_true rfl, Nat.le_of_ble_eq_true rfl⟩) 2 rfl rfl rfl hl.1 rfl (lv_room (Nat.le_of_ble_eq_true rfl)) d_Prc_addToA_86 (fun S20 H locs e21 hP hS => ?_)
      refine lv_aload_n hx hb d_Prc_addToA_89 rfl (lv_at hl 4 rfl) ?_
      refine gt_Prc X hP 1 (by decide) (v := .ref (a 2)) q_195 rfl d_Prc_addToA_90 ?_
      refine lv_iload hx hb d_Prc_addToA_93 (lv_at hl 1 rfl) ?_
      refine kv_s (rest := []) X hP hS (c_Reg_loadA l D cB cI a bz ha S20 (((f_Reg_a S) + x1) + ((S.1 8) &&& (1 : Int32)))) (kw_Reg_loadA hts q_401 ⟨Nat.le_of_ble_eq_true rfl, Nat.le_of_ble_eq_true rfl⟩) 2 rfl rfl rfl hl.1 rfl (lv_room (Nat.le_of_ble_eq_true rfl)) d_Prc_addToA_95 (fun S22 H locs e23 hP hS => ?_)
      exact rt_s X hr hk hP hS (by rw [f_Prc_addToA, if_neg h1, bs_eq e14, if_neg h15, bs_eq e21, bs_eq e23]) d_Prc_addToA_98
set_option maxHeartbeats 4000000 in
set_option maxRecDepth 100000 in
theorem c_Prc_compare (l : Launch) (D : va_G) (cB cI : ClassId) (a : Nat → Nat) (bz : Nat) (ha : ap a 8) (S : Sc) (x1 x2 x3 : Int32) : MV l y_Prc_compare b_Prc_compare 4 rm_Prc_compare [.ref (a 3), .int x1, .int x2, .int x3] D cB cI (wdC cB cI a) (ow a 8) bz S (f_Prc_compare S x1 x2 x3) := by
  refine met_in R_Prc (by decide) rfl (Nat.le_of_ble_eq_true rfl) (wdC_D ha cB cI) ?_
  intro p e s m below meth c ls X hr hk hl hP hS
  have hx := X.1.1
  have hb := X.1.2.1
  have hown := X.1.2.2.2.1
  have hts := X.1.2.2.2.2
  have hl : lv_has ls 4 [(0, .ref (a 3)), (1, .int x1), (2, .int x2), (3, .int x3)] := hl
  refine lv_aload_n hx hb d_Prc_compare_0 rfl (lv_at hl 0 rfl) ?_
  refine gt_Prc X hP 1 (by decide) (v := .ref (a 2)) q_195 rfl d_Prc_compare_1 ?_
  refine lv_iconst (v := (1 : Int32)) hx hb d_Prc_compare_4 (by decide) ?_
  refine lv_iload_n hx hb d_Prc_compare_5 rfl (lv_at hl 1 rfl) ?_
  refine lv_iload_n hx hb d_Prc_compare_6 rfl (lv_at hl 2 rfl) ?_
  refine lv_icmp_lt (tgt := 14) hx hb d_Prc_compare_7 rfl (fun h1 => ?_) (fun h1 => ?_)
  ·
    refine lv_iconst (v := (0 : Int32)) hx hb d_Prc_compare_14 (by decide) ?_
    refine kv_s (rest := []) X hP hS (c_Reg_putFlag l D cB cI a bz ha S (1 : Int32) (0 : Int32)) (kw_Reg_putFlag hts q_305 ⟨Nat.le_of_ble_eq_true rfl, Nat.le_of_ble_eq_true rfl⟩) 2 rfl rfl rfl hl.1 rfl (lv_room (Nat.le_of_ble_eq_true rfl)) d_Prc_compare_15 (fun S2 H locs e3 hP hS => ?_)
    refine lv_aload_n hx hb d_Prc_compare_18 rfl (lv_at hl 0 rfl) ?_
    refine gt_Prc X hP 1 (by decide) (v := .ref (a 2)) q_195 rfl d_Prc_compare_19 ?_
    refine lv_iload_n hx hb d_Prc_compare_22 rfl (lv_at hl 1 rfl) ?_
    refine lv_iload_n hx hb d_Prc_compare_23 rfl (lv_at hl 2 rfl) ?_
    refine lv_isub hx hb d_Prc_compare_24 ?_
    refine lv_iload_n hx hb d_Prc_compare_25 rfl (lv_at hl 3 rfl) ?_
    refine ks_v (rest := [.int ((x1 - x2)), .ref (a 2)]) X hP hS (c_Reg_maskOf l D cB cI a bz ha S2 x3) (kw_Reg_maskOf hts q_418 ⟨Nat.le_of_ble_eq_true rfl, Nat.le_of_ble_eq_true rfl⟩) rfl hl.1 rfl (lv_room (Nat.le_of_ble_eq_true rfl)) d_Prc_compare_26 (fun H locs hP hS => ?_)
    refine lv_iand hx hb d_Prc_compare_29 ?_
    refine lv_iload_n hx hb d_Prc_compare_30 rfl (lv_at hl 3 rfl) ?_
    refine kv_s (rest := []) X hP hS (c_Reg_showResult l D cB cI a bz ha S2 ((x1 - x2) &&& (f_Reg_maskOf x3)) x3) (kw_Reg_showResult hts q_423 ⟨Nat.le_of_ble_eq_true rfl, Nat.le_of_ble_eq_true rfl⟩) 2 rfl rfl rfl hl.1 rfl (lv_room (Nat.le_of_ble_eq_true rfl)) d_Prc_compare_31 (fun S4 H locs e5 hP hS => ?_)
    exact rt_s X hr hk hP hS (by rw [f_Prc_compare, if_pos h1, bs_eq e3, bs_eq e5]) d_Prc_compare_34
  ·
    refine lv_iconst (v := (1 : Int32)) hx hb d_Prc_compare_10 (by decide) ?_
    refine lv_goto (tgt := 15) hx hb d_Prc_compare_11 rfl ?_
    refine kv_s (rest := []) X hP hS (c_Reg_putFlag l D cB cI a bz ha S (1 : Int32) (1 : Int32)) (kw_Reg_putFlag hts q_305 ⟨Nat.le_of_ble_eq_true rfl, Nat.le_of_ble_eq_true rfl⟩) 2 rfl rfl rfl hl.1 rfl (lv_room (Nat.le_of_ble_eq_true rfl)) d_Prc_compare_15 (fun S6 H locs e7 hP hS => ?_)
    refine lv_aload_n hx hb d_Prc_compare_18 rfl (lv_at hl 0 rfl) ?_
    refine gt_Prc X hP 1 (by decide) (v := .ref (a 2)) q_195 rfl d_Prc_compare_19 ?_
    refine lv_iload_n hx hb d_Prc_compare_22 rfl (lv_at hl 1 rfl) ?_
    refine lv_iload_n hx hb d_Prc_compare_23 rfl (lv_at hl 2 rfl) ?_
    refine lv_isub hx hb d_Prc_compare_24 ?_
    refine lv_iload_n hx hb d_Prc_compare_25 rfl (lv_at hl 3 rfl) ?_
    refine ks_v (rest := [.int ((x1 - x2)), .ref (a 2)]) X hP hS (c_Reg_maskOf l D cB cI a bz ha S6 x3) (kw_Reg_maskOf hts q_418 ⟨Nat.le_of_ble_eq_true rfl, Nat.le_of_ble_eq_true rfl⟩) rfl hl.1 rfl (lv_room (Nat.le_of_ble_eq_true rfl)) d_Prc_compare_26 (fun H locs hP hS => ?_)
    refine lv_iand hx hb d_Prc_compare_29 ?_
    refine lv_iload_n hx hb d_Prc_compare_30 rfl (lv_at hl 3 rfl) ?_
    refine kv_s (rest := []) X hP hS (c_Reg_showResult l D cB cI a bz ha S6 ((x1 - x2) &&& (f_Reg_maskOf x3)) x3) (kw_Reg_showResult hts q_423 ⟨Nat.le_of_ble_eq_true rfl, Nat.le_of_ble_eq_true rfl⟩) 2 rfl rfl rfl hl.1 rfl (lv_room (Nat.le_of_ble_eq_true rfl)) d_Prc_compare_31 (fun S8 H locs e9 hP hS => ?_)
    exact rt_s X hr hk hP hS (by rw [f_Prc_compare, if_neg h1, bs_eq e7, bs_eq e9]) d_Prc_compare_34
set_option maxHeartbeats 4000000 in
set_option maxRecDepth 100000 in
theorem c_Prc_useAccumulator (l : Launch) (D : va_G) (cB cI : ClassId) (a : Nat → Nat) (bz : Nat) (ha : ap a 8) (S : Sc) (x1 : Int32) : MI l y_Prc_useAccumulator b_Prc_useAccumulator 6 (some .boolean) rm_Prc_useAccumulator [.ref (a 3), .int x1] D cB cI (wdC cB cI a) (ow a 8) bz S (f_Prc_useAccumulator S x1) := by
  refine met_in R_Prc (by decide) rfl (Nat.le_of_ble_eq_true rfl) (wdC_D ha cB cI) ?_
  intro p e s m below meth c ls X hr hk hl hP hS
  have hx := X.1.1
  have hb := X.1.2.1
  have hown := X.1.2.2.2.1
  have hts := X.1.2.2.2.2
  have hl : lv_has ls 6 [(0, .ref (a 3)), (1, .int x1)] := hl
  refine lv_iload_n hx hb d_Prc_useAccumulator_0 rfl (lv_at hl 1 rfl) ?_
  refine lv_bipush (v := (31 : Int32)) hx hb d_Prc_useAccumulator_1 (by decide) ?_
  refine lv_iand hx hb d_Prc_useAccumulator_3 ?_
  refine lv_istore_n hx hb d_Prc_useAccumulator_4 rfl hl (Nat.le_of_ble_eq_true rfl) rfl (fun ls hl => ?_)
  have hl : lv_has ls 6 [(2, .int ((x1 &&& (31 : Int32)))), (0, .ref (a 3)), (1, .int (x1))] := hl
  refine lv_iload_n hx hb d_Prc_useAccumulator_5 rfl (lv_at hl 2 rfl) ?_
  refine lv_iconst (v := (5 : Int32)) hx hb d_Prc_useAccumulator_6 (by decide) ?_
  refine lv_ishr hx hb d_Prc_useAccumulator_7 ?_
  refine lv_istore_n hx hb d_Prc_useAccumulator_8 rfl hl (Nat.le_of_ble_eq_true rfl) rfl (fun ls hl => ?_)
  have hl : lv_has ls 6 [(3, .int ((x1 >>> ((5 : Int32) &&& 31)))), (2, .int ((x1 &&& (31 : Int32)))), (0, .ref (a 3)), (1, .int (x1))] := hl
  refine lv_iload_n hx hb d_Prc_useAccumulator_9 rfl (lv_at hl 1 rfl) ?_
  refine ks_v (rest := []) X hP hS (c_Opd_isMode l D cB cI a bz ha S (x1 &&& (31 : Int32))) (kw_Opd_isMode hts q_343 ⟨Nat.le_of_ble_eq_true rfl, Nat.le_of_ble_eq_true rfl⟩) rfl hl.1 rfl (lv_room (Nat.le_of_ble_eq_true rfl)) d_Prc_useAccumulator_10 (fun H locs hP hS => ?_)
  refine lv_if_eq (tgt := 23) hx hb d_Prc_useAccumulator_13 rfl (fun h1 => ?_) (fun h1 => ?_)
  ·
    refine lv_iconst (v := (0 : Int32)) hx hb d_Prc_useAccumulator_23 (by decide) ?_
    exact rt_z X hr hk hP hS (by decide) (by rw [f_Prc_useAccumulator, if_pos h1]) d_Prc_useAccumulator_24
  ·
    refine lv_iload_n hx hb d_Prc_useAccumulator_16 rfl (lv_at hl 3 rfl) ?_
    refine lv_sipush (v := (137 : Int32)) hx hb d_Prc_useAccumulator_17 (by decide) ?_
    refine lv_icmp_ne (tgt := 25) hx hb d_Prc_useAccumulator_20 rfl (fun h2 => ?_) (fun h2 => ?_)
    ·
      refine lv_aload_n hx hb d_Prc_useAccumulator_25 rfl (lv_at hl 2 rfl) ?_
      refine gt_Prc X hP 1 (by decide) (v := .ref (a 2)) q_195 rfl d_Prc_useAccumulator_26 ?_
      refine kv_v (rest := []) X hP hS (c_Reg_wideA l D cB cI a bz ha S) (kw_Reg_wideA hts q_346 ⟨Nat.le_of_ble_eq_true rfl, Nat.le_of_ble_eq_true rfl⟩) 2 rfl rfl rfl hl.1 rfl (lv_room (Nat.le_of_ble_eq_true rfl)) d_Prc_useAccumulator_29 (fun H locs hP hS => ?_)
      refine lv_istore hx hb d_Prc_useAccumulator_32 hl (Nat.le_of_ble_eq_true rfl) rfl (fun ls hl => ?_)
      have hl : lv_has ls 6 [(4, .int ((f_Reg_wideA S))), (3, .int ((x1 >>> ((5 : Int32) &&& 31)))), (2, .int ((x1 &&& (31 : Int32)))), (0, .ref (a 3)), (1, .int (x1))] := hl
      refine lv_iload_n hx hb d_Prc_useAccumulator_34 rfl (lv_at hl 1 rfl) ?_
      refine lv_iconst (v := (4 : Int32)) hx hb d_Prc_useAccumulator_35 (by decide) ?_
      refine lv_icmp_ne (tgt := 65) hx hb d_Prc_useAccumulator_36 rfl (fun h3 => ?_) (fun h3 => ?_)
      ·
        refine lv_iload_n hx hb d_Prc_useAccumulator_65 rfl (lv_at hl 2 rfl) ?_
        refine lv_bipush (v := (9 : Int32)) hx hb d_Prc_useAccumulator_66 (by decide) ?_
        refine lv_icmp_ne (tgt := 83) hx hb d_Prc_useAccumulator_68 rfl (fun h4 => ?_) (fun h4 => ?_)
        ·
          refine lv_aload_n hx hb d_Prc_useAccumulator_83 rfl (lv_at hl 3 rfl) ?_
          refine gt_Prc X hP 0 (by decide) (v := .ref (a 1)) q_194 rfl d_Prc_useAccumulator_84 ?_
          refine lv_aload_n hx hb d_Prc_useAccumulator_87 rfl (lv_at hl 3 rfl) ?_
          refine gt_Prc X hP 2 (by decide) (v := .ref (a 4)) q_196 rfl d_Prc_useAccumulator_88 ?_
          refine lv_iload_n hx hb d_Prc_useAccumulator_91 rfl (lv_at hl 2 rfl) ?_
          refine kv_vs (rest := [.ref (a 1)]) X hP hS (c_Opd_place l D cB cI a bz ha S (x1 &&& (31 : Int32))) (kw_Opd_place hts q_350 ⟨Nat.le_of_ble_eq_true rfl, Nat.le_of_ble_eq_true rfl⟩) 4 rfl rfl rfl hl.1 rfl (lv_room (Nat.le_of_ble_eq_true rfl)) d_Prc_useAccumulator_92 (fun r5 S6 H locs e7 hP hS => ?_)
          refine lv_iload hx hb d_Prc_useAccumulator_95 (lv_at hl 0 rfl) ?_
          refine kv_vs (rest := []) X hP hS (c_Bus_readValue l D cB cI a bz ha S6 r5 (f_Reg_wideA S)) (kw_Bus_readValue hts q_391 ⟨Nat.le_of_ble_eq_true rfl, Nat.le_of_ble_eq_true rfl⟩) 1 rfl rfl rfl hl.1 rfl (lv_room (Nat.le_of_ble_eq_true rfl)) d_Prc_useAccumulator_97 (fun r8 S9 H locs e10 hP hS => ?_)
          refine lv_istore hx hb d_Prc_useAccumulator_100 hl (Nat.le_of_ble_eq_true rfl) rfl (fun ls hl => ?_)
          have hl : lv_has ls 6 [(5, .int (r8)), (4, .int ((f_Reg_wideA S))), (3, .int ((x1 >>> ((5 : Int32) &&& 31)))), (2, .int ((x1 &&& (31 : Int32)))), (0, .ref (a 3)), (1, .int (x1))] := hl
          refine lv_iload_n hx hb d_Prc_useAccumulator_102 rfl (lv_at hl 2 rfl) ?_
          by_cases h11 : (x1 >>> ((5 : Int32) &&& 31)) = (0 : Int32)
          ·
            refine sw_t (k := (0 : Int32)) (tgt := 148) hx hb d_Prc_useAccumulator_103 h11 rfl ?_
            refine lv_aload_n hx hb d_Prc_useAccumulator_148 rfl (lv_at hl 4 rfl) ?_
            refine gt_Prc X hP 1 (by decide) (v := .ref (a 2)) q_195 rfl d_Prc_useAccumulator_149 ?_
            refine lv_aload_n hx hb d_Prc_useAccumulator_152 rfl (lv_at hl 4 rfl) ?_
            refine gt_Prc X hP 1 (by decide) (v := .ref (a 2)) q_195 rfl d_Prc_useAccumulator_153 ?_
            refine kv_v (rest := [.ref (a 2)]) X hP hS (c_Reg_a l D cB cI a bz ha S9) (kw_Reg_a hts q_396 ⟨Nat.le_of_ble_eq_true rfl, Nat.le_of_ble_eq_true rfl⟩) 2 rfl rfl rfl hl.1 rfl (lv_room (Nat.le_of_ble_eq_true rfl)) d_Prc_useAccumulator_156 (fun H locs hP hS => ?_)
            refine lv_iload hx hb d_Prc_useAccumulator_159 (lv_at hl 0 rfl) ?_
            refine lv_ior hx hb d_Prc_useAccumulator_161 ?_
            refine kv_s (rest := []) X hP hS (c_Reg_loadA l D cB cI a bz ha S9 ((f_Reg_a S9) ||| r8)) (kw_Reg_loadA hts q_401 ⟨Nat.le_of_ble_eq_true rfl, Nat.le_of_ble_eq_true rfl⟩) 2 rfl rfl rfl hl.1 rfl (lv_room (Nat.le_of_ble_eq_true rfl)) d_Prc_useAccumulator_162 (fun S12 H locs e13 hP hS => ?_)
            refine lv_goto (tgt := 266) hx hb d_Prc_useAccumulator_165 rfl ?_
            refine lv_iconst (v := (1 : Int32)) hx hb d_Prc_useAccumulator_266 (by decide) ?_
            exact rt_z X hr hk hP hS (by decide) (by rw [f_Prc_useAccumulator, if_neg h1, if_neg h2, if_neg h3, if_neg h4, bn_eq e7, bn_eq e10, if_pos h11, bs_eq e13]) d_Prc_useAccumulator_267
          ·
            by_cases h14 : (x1 >>> ((5 : Int32) &&& 31)) = (1 : Int32)
            ·
              refine sw_t (k := (1 : Int32)) (tgt := 168) hx hb d_Prc_useAccumulator_103 h14 rfl ?_
              refine lv_aload_n hx hb d_Prc_useAccumulator_168 rfl (lv_at hl 4 rfl) ?_
              refine gt_Prc X hP 1 (by decide) (v := .ref (a 2)) q_195 rfl d_Prc_useAccumulator_169 ?_
              refine lv_aload_n hx hb d_Prc_useAccumulator_172 rfl (lv_at hl 4 rfl) ?_
              refine gt_Prc X hP 1 (by decide) (v := .ref (a 2)) q_195 rfl d_Prc_useAccumulator_173 ?_
              refine kv_v (rest := [.ref (a 2)]) X hP hS (c_Reg_a l D cB cI a bz ha S9) (kw_Reg_a hts q_396 ⟨Nat.le_of_ble_eq_true rfl, Nat.le_of_ble_eq_true rfl⟩) 2 rfl rfl rfl hl.1 rfl (lv_room (Nat.le_of_ble_eq_true rfl)) d_Prc_useAccumulator_176 (fun H locs hP hS => ?_)
              refine lv_iload hx hb d_Prc_useAccumulator_179 (lv_at hl 0 rfl) ?_
              refine lv_iand hx hb d_Prc_useAccumulator_181 ?_
              refine kv_s (rest := []) X hP hS (c_Reg_loadA l D cB cI a bz ha S9 ((f_Reg_a S9) &&& r8)) (kw_Reg_loadA hts q_401 ⟨Nat.le_of_ble_eq_true rfl, Nat.le_of_ble_eq_true rfl⟩) 2 rfl rfl rfl hl.1 rfl (lv_room (Nat.le_of_ble_eq_true rfl)) d_Prc_useAccumulator_182 (fun S15 H locs e16 hP hS => ?_)
              refine lv_goto (tgt := 266) hx hb d_Prc_useAccumulator_185 rfl ?_
              refine lv_iconst (v := (1 : Int32)) hx hb d_Prc_useAccumulator_266 (by decide) ?_
              exact rt_z X hr hk hP hS (by decide) (by rw [f_Prc_useAccumulator, if_neg h1, if_neg h2, if_neg h3, if_neg h4, bn_eq e7, bn_eq e10, if_neg h11, if_pos h14, bs_eq e16]) d_Prc_useAccumulator_267
            ·
              by_cases h17 : (x1 >>> ((5 : Int32) &&& 31)) = (2 : Int32)
              ·
                refine sw_t (k := (2 : Int32)) (tgt := 188) hx hb d_Prc_useAccumulator_103 h17 rfl ?_
                refine lv_aload_n hx hb d_Prc_useAccumulator_188 rfl (lv_at hl 4 rfl) ?_
                refine gt_Prc X hP 1 (by decide) (v := .ref (a 2)) q_195 rfl d_Prc_useAccumulator_189 ?_
                refine lv_aload_n hx hb d_Prc_useAccumulator_192 rfl (lv_at hl 4 rfl) ?_
                refine gt_Prc X hP 1 (by decide) (v := .ref (a 2)) q_195 rfl d_Prc_useAccumulator_193 ?_
                refine kv_v (rest := [.ref (a 2)]) X hP hS (c_Reg_a l D cB cI a bz ha S9) (kw_Reg_a hts q_396 ⟨Nat.le_of_ble_eq_true rfl, Nat.le_of_ble_eq_true rfl⟩) 2 rfl rfl rfl hl.1 rfl (lv_room (Nat.le_of_ble_eq_true rfl)) d_Prc_useAccumulator_196 (fun H locs hP hS => ?_)
                refine lv_iload hx hb d_Prc_useAccumulator_199 (lv_at hl 0 rfl) ?_
                refine lv_ixor hx hb d_Prc_useAccumulator_201 ?_
                refine kv_s (rest := []) X hP hS (c_Reg_loadA l D cB cI a bz ha S9 ((f_Reg_a S9) ^^^ r8)) (kw_Reg_loadA hts q_401 ⟨Nat.le_of_ble_eq_true rfl, Nat.le_of_ble_eq_true rfl⟩) 2 rfl rfl rfl hl.1 rfl (lv_room (Nat.le_of_ble_eq_true rfl)) d_Prc_useAccumulator_202 (fun S18 H locs e19 hP hS => ?_)
                refine lv_goto (tgt := 266) hx hb d_Prc_useAccumulator_205 rfl ?_
                refine lv_iconst (v := (1 : Int32)) hx hb d_Prc_useAccumulator_266 (by decide) ?_
                exact rt_z X hr hk hP hS (by decide) (by rw [f_Prc_useAccumulator, if_neg h1, if_neg h2, if_neg h3, if_neg h4, bn_eq e7, bn_eq e10, if_neg h11, if_neg h14, if_pos h17, bs_eq e19]) d_Prc_useAccumulator_267
              ·
                by_cases h20 : (x1 >>> ((5 : Int32) &&& 31)) = (3 : Int32)
                ·
                  refine sw_t (k := (3 : Int32)) (tgt := 208) hx hb d_Prc_useAccumulator_103 h20 rfl ?_
                  refine lv_aload_n hx hb d_Prc_useAccumulator_208 rfl (lv_at hl 4 rfl) ?_
                  refine lv_iload hx hb d_Prc_useAccumulator_209 (lv_at hl 0 rfl) ?_
                  refine kv_s (rest := []) X hP hS (c_Prc_addToA l D cB cI a bz ha S9 r8) (kw_Prc_addToA hts q_413 ⟨Nat.le_of_ble_eq_true rfl, Nat.le_of_ble_eq_true rfl⟩) 3 rfl rfl rfl hl.1 rfl (lv_room (Nat.le_of_ble_eq_true rfl)) d_Prc_useAccumulator_211 (fun S21 H locs e22 hP hS => ?_)
                  refine lv_goto (tgt := 266) hx hb d_Prc_useAccumulator_214 rfl ?_
                  refine lv_iconst (v := (1 : Int32)) hx hb d_Prc_useAccumulator_266 (by decide) ?_
                  exact rt_z X hr hk hP hS (by decide) (by rw [f_Prc_useAccumulator, if_neg h1, if_neg h2, if_neg h3, if_neg h4, bn_eq e7, bn_eq e10, if_neg h11, if_neg h14, if_neg h17, if_pos h20, bs_eq e22]) d_Prc_useAccumulator_267
                ·
                  by_cases h23 : (x1 >>> ((5 : Int32) &&& 31)) = (5 : Int32)
                  ·
                    refine sw_t (k := (5 : Int32)) (tgt := 217) hx hb d_Prc_useAccumulator_103 h23 rfl ?_
                    refine lv_aload_n hx hb d_Prc_useAccumulator_217 rfl (lv_at hl 4 rfl) ?_
                    refine gt_Prc X hP 1 (by decide) (v := .ref (a 2)) q_195 rfl d_Prc_useAccumulator_218 ?_
                    refine lv_iload hx hb d_Prc_useAccumulator_221 (lv_at hl 0 rfl) ?_
                    refine kv_s (rest := []) X hP hS (c_Reg_loadA l D cB cI a bz ha S9 r8) (kw_Reg_loadA hts q_401 ⟨Nat.le_of_ble_eq_true rfl, Nat.le_of_ble_eq_true rfl⟩) 2 rfl rfl rfl hl.1 rfl (lv_room (Nat.le_of_ble_eq_true rfl)) d_Prc_useAccumulator_223 (fun S24 H locs e25 hP hS => ?_)
                    refine lv_goto (tgt := 266) hx hb d_Prc_useAccumulator_226 rfl ?_
                    refine lv_iconst (v := (1 : Int32)) hx hb d_Prc_useAccumulator_266 (by decide) ?_
                    exact rt_z X hr hk hP hS (by decide) (by rw [f_Prc_useAccumulator, if_neg h1, if_neg h2, if_neg h3, if_neg h4, bn_eq e7, bn_eq e10, if_neg h11, if_neg h14, if_neg h17, if_neg h20, if_pos h23, bs_eq e25]) d_Prc_useAccumulator_267
                  ·
                    by_cases h26 : (x1 >>> ((5 : Int32) &&& 31)) = (6 : Int32)
                    ·
                      refine sw_t (k := (6 : Int32)) (tgt := 229) hx hb d_Prc_useAccumulator_103 h26 rfl ?_
                      refine lv_aload_n hx hb d_Prc_useAccumulator_229 rfl (lv_at hl 4 rfl) ?_
                      refine lv_aload_n hx hb d_Prc_useAccumulator_230 rfl (lv_at hl 4 rfl) ?_
                      refine gt_Prc X hP 1 (by decide) (v := .ref (a 2)) q_195 rfl d_Prc_useAccumulator_231 ?_
                      refine kv_v (rest := [.ref (a 3)]) X hP hS (c_Reg_a l D cB cI a bz ha S9) (kw_Reg_a hts q_396 ⟨Nat.le_of_ble_eq_true rfl, Nat.le_of_ble_eq_true rfl⟩) 2 rfl rfl rfl hl.1 rfl (lv_room (Nat.le_of_ble_eq_true rfl)) d_Prc_useAccumulator_234 (fun H locs hP hS => ?_)
                      refine lv_iload hx hb d_Prc_useAccumulator_237 (lv_at hl 0 rfl) ?_
                      refine lv_iload hx hb d_Prc_useAccumulator_239 (lv_at hl 1 rfl) ?_
                      refine kv_s (rest := []) X hP hS (c_Prc_compare l D cB cI a bz ha S9 (f_Reg_a S9) r8 (f_Reg_wideA S)) (kw_Prc_compare hts q_419 ⟨Nat.le_of_ble_eq_true rfl, Nat.le_of_ble_eq_true rfl⟩) 3 rfl rfl rfl hl.1 rfl (lv_room (Nat.le_of_ble_eq_true rfl)) d_Prc_useAccumulator_241 (fun S27 H locs e28 hP hS => ?_)
                      refine lv_goto (tgt := 266) hx hb d_Prc_useAccumulator_244 rfl ?_
                      refine lv_iconst (v := (1 : Int32)) hx hb d_Prc_useAccumulator_266 (by decide) ?_
                      exact rt_z X hr hk hP hS (by decide) (by rw [f_Prc_useAccumulator, if_neg h1, if_neg h2, if_neg h3, if_neg h4, bn_eq e7, bn_eq e10, if_neg h11, if_neg h14, if_neg h17, if_neg h20, if_neg h23, if_pos h26, bs_eq e28]) d_Prc_useAccumulator_267
                    ·
                      by_cases h29 : (x1 >>> ((5 : Int32) &&& 31)) = (7 : Int32)
                      ·
                        refine sw_t (k := (7 : Int32)) (tgt := 247) hx hb d_Prc_useAccumulator_103 h29 rfl ?_
                        refine lv_aload_n hx hb d_Prc_useAccumulator_247 rfl (lv_at hl 4 rfl) ?_
                        refine lv_iload hx hb d_Prc_useAccumulator_248 (lv_at hl 0 rfl) ?_
                        refine lv_iconst (v := (-1 : Int32)) hx hb d_Prc_useAccumulator_250 (by decide) ?_
                        refine lv_ixor hx hb d_Prc_useAccumulator_251 ?_
                        refine lv_iload hx hb d_Prc_useAccumulator_252 (lv_at hl 1 rfl) ?_
                        refine ks_v (rest := [.int ((r8 ^^^ (-1 : Int32))), .ref (a 3)]) X hP hS (c_Reg_maskOf l D cB cI a bz ha S9 (f_Reg_wideA S)) (kw_Reg_maskOf hts q_418 ⟨Nat.le_of_ble_eq_true rfl, Nat.le_of_ble_eq_true rfl⟩) rfl hl.1 rfl (lv_room (Nat.le_of_ble_eq_true rfl)) d_Prc_useAccumulator_254 (fun H locs hP hS => ?_)
                        refine lv_iand hx hb d_Prc_useAccumulator_257 ?_
                        refine kv_s (rest := []) X hP hS (c_Prc_addToA l D cB cI a bz ha S9 ((r8 ^^^ (-1 : Int32)) &&& (f_Reg_maskOf (f_Reg_wideA S)))) (kw_Prc_addToA hts q_413 ⟨Nat.le_of_ble_eq_true rfl, Nat.le_of_ble_eq_true rfl⟩) 3 rfl rfl rfl hl.1 rfl (lv_room (Nat.le_of_ble_eq_true rfl)) d_Prc_useAccumulator_258 (fun S30 H locs e31 hP hS => ?_)
                        refine lv_goto (tgt := 266) hx hb d_Prc_useAccumulator_261 rfl ?_
                        refine lv_iconst (v := (1 : Int32)) hx hb d_Prc_useAccumulator_266 (by decide) ?_
                        exact rt_z X hr hk hP hS (by decide) (by rw [f_Prc_useAccumulator, if_neg h1, if_neg h2, if_neg h3, if_neg h4, bn_eq e7, bn_eq e10, if_neg h11, if_neg h14, if_neg h17, if_neg h20, if_neg h23, if_neg h26, if_pos h29, bs_eq e31]) d_Prc_useAccumulator_267
                      ·
                        refine sn_t (tgt := 264) hx hb d_Prc_useAccumulator_103 (by have g0 := lv_neT (a := 0) h11 rfl; have g1 := lv_neT (a := 1) h14 rfl; have g2 := lv_neT (a := 2) h17 rfl; have g3 := lv_neT (a := 3) h20 rfl; have g4 := lv_neT (a := 4) h3 rfl; have g5 := lv_neT (a := 5) h23 rfl; have g6 := lv_neT (a := 6) h26 rfl; have g7 := lv_neT (a := 7) h29 rfl; omega) rfl ?_
                        refine lv_iconst (v := (0 : Int32)) hx hb d_Prc_useAccumulator_264 (by decide) ?_
                        exact rt_z X hr hk hP hS (by decide) (by rw [f_Prc_useAccumulator, if_neg h1, if_neg h2, if_neg h3, if_neg h4, bn_eq e7, bn_eq e10, if_neg h11, if_neg h14, if_neg h17, if_neg h20, if_neg h23, if_neg h26, if_neg h29]) d_Prc_useAccumulator_265
        ·
          refine lv_aload_n hx hb d_Prc_useAccumulator_71 rfl (lv_at hl 3 rfl) ?_
          refine gt_Prc X hP 2 (by decide) (v := .ref (a 4)) q_196 rfl d_Prc_useAccumulator_72 ?_
          refine lv_iload hx hb d_Prc_useAccumulator_75 (lv_at hl 0 rfl) ?_
          refine kv_vs (rest := []) X hP hS (c_Opd_nextValue l D cB cI a bz ha S (f_Reg_wideA S)) (kw_Opd_nextValue hts q_387 ⟨Nat.le_of_ble_eq_true rfl, Nat.le_of_ble_eq_true rfl⟩) 4 rfl rfl rfl hl.1 rfl (lv_room (Nat.le_of_ble_eq_true rfl)) d_Prc_useAccumulator_77 (fun r32 S33 H locs e34 hP hS => ?_)
          refine lv_goto (tgt := 100) hx hb d_Prc_useAccumulator_80 rfl ?_
          refine lv_istore hx hb d_Prc_useAccumulator_100 hl (Nat.le_of_ble_eq_true rfl) rfl (fun ls hl => ?_)
          have hl : lv_has ls 6 [(5, .int (r32)), (4, .int ((f_Reg_wideA S))), (3, .int ((x1 >>> ((5 : Int32) &&& 31)))), (2, .int ((x1 &&& (31 : Int32)))), (0, .ref (a 3)), (1, .int (x1))] := hl
          refine lv_iload_n hx hb d_Prc_useAccumulator_102 rfl (lv_at hl 2 rfl) ?_
          by_cases h35 : (x1 >>> ((5 : Int32) &&& 31)) = (0 : Int32)
          ·
            refine sw_t (k := (0 : Int32)) (tgt := 148) hx hb d_Prc_useAccumulator_103 h35 rfl ?_
            refine lv_aload_n hx hb d_Prc_useAccumulator_148 rfl (lv_at hl 4 rfl) ?_
            refine gt_Prc X hP 1 (by decide) (v := .ref (a 2)) q_195 rfl d_Prc_useAccumulator_149 ?_
            refine lv_aload_n hx hb d_Prc_useAccumulator_152 rfl (lv_at hl 4 rfl) ?_
            refine gt_Prc X hP 1 (by decide) (v := .ref (a 2)) q_195 rfl d_Prc_useAccumulator_153 ?_
            refine kv_v (rest := [.ref (a 2)]) X hP hS (c_Reg_a l D cB cI a bz ha S33) (kw_Reg_a hts q_396 ⟨Nat.le_of_ble_eq_true rfl, Nat.le_of_ble_eq_true rfl⟩) 2 rfl rfl rfl hl.1 rfl (lv_room (Nat.le_of_ble_eq_true rfl)) d_Prc_useAccumulator_156 (fun H locs hP hS => ?_)
            refine lv_iload hx hb d_Prc_useAccumulator_159 (lv_at hl 0 rfl) ?_
            refine lv_ior hx hb d_Prc_useAccumulator_161 ?_
            refine kv_s (rest := []) X hP hS (c_Reg_loadA l D cB cI a bz ha S33 ((f_Reg_a S33) ||| r32)) (kw_Reg_loadA hts q_401 ⟨Nat.le_of_ble_eq_true rfl, Nat.le_of_ble_eq_true rfl⟩) 2 rfl rfl rfl hl.1 rfl (lv_room (Nat.le_of_ble_eq_true rfl)) d_Prc_useAccumulator_162 (fun S36 H locs e37 hP hS => ?_)
            refine lv_goto (tgt := 266) hx hb d_Prc_useAccumulator_165 rfl ?_
            refine lv_iconst (v := (1 : Int32)) hx hb d_Prc_useAccumulator_266 (by decide) ?_
            exact rt_z X hr hk hP hS (by decide) (by rw [f_Prc_useAccumulator, if_neg h1, if_neg h2, if_neg h3, if_pos h4, bn_eq e34, if_pos h35, bs_eq e37]) d_Prc_useAccumulator_267
          ·
            by_cases h38 : (x1 >>> ((5 : Int32) &&& 31)) = (1 : Int32)
            ·
              refine sw_t (k := (1 : Int32)) (tgt := 168) hx hb d_Prc_useAccumulator_103 h38 rfl ?_
              refine lv_aload_n hx hb d_Prc_useAccumulator_168 rfl (lv_at hl 4 rfl) ?_
              refine gt_Prc X hP 1 (by decide) (v := .ref (a 2)) q_195 rfl d_Prc_useAccumulator_169 ?_
              refine lv_aload_n hx hb d_Prc_useAccumulator_172 rfl (lv_at hl 4 rfl) ?_
              refine gt_Prc X hP 1 (by decide) (v := .ref (a 2)) q_195 rfl d_Prc_useAccumulator_173 ?_
              refine kv_v (rest := [.ref (a 2)]) X hP hS (c_Reg_a l D cB cI a bz ha S33) (kw_Reg_a hts q_396 ⟨Nat.le_of_ble_eq_true rfl, Nat.le_of_ble_eq_true rfl⟩) 2 rfl rfl rfl hl.1 rfl (lv_room (Nat.le_of_ble_eq_true rfl)) d_Prc_useAccumulator_176 (fun H locs hP hS => ?_)
              refine lv_iload hx hb d_Prc_useAccumulator_179 (lv_at hl 0 rfl) ?_
              refine lv_iand hx hb d_Prc_useAccumulator_181 ?_
              refine kv_s (rest := []) X hP hS (c_Reg_loadA l D cB cI a bz ha S33 ((f_Reg_a S33) &&& r32)) (kw_Reg_loadA hts q_401 ⟨Nat.le_of_ble_eq_true rfl, Nat.le_of_ble_eq_true rfl⟩) 2 rfl rfl rfl hl.1 rfl (lv_room (Nat.le_of_ble_eq_true rfl)) d_Prc_useAccumulator_182 (fun S39 H locs e40 hP hS => ?_)
              refine lv_goto (tgt := 266) hx hb d_Prc_useAccumulator_185 rfl ?_
              refine lv_iconst (v := (1 : Int32)) hx hb d_Prc_useAccumulator_266 (by decide) ?_
              exact rt_z X hr hk hP hS (by decide) (by rw [f_Prc_useAccumulator, if_neg h1, if_neg h2, if_neg h3, if_pos h4, bn_eq e34, if_neg h35, if_pos h38, bs_eq e40]) d_Prc_useAccumulator_267
            ·
              by_cases h41 : (x1 >>> ((5 : Int32) &&& 31)) = (2 : Int32)
              ·
                refine sw_t (k := (2 : Int32)) (tgt := 188) hx hb d_Prc_useAccumulator_103 h41 rfl ?_
                refine lv_aload_n hx hb d_Prc_useAccumulator_188 rfl (lv_at hl 4 rfl) ?_
                refine gt_Prc X hP 1 (by decide) (v := .ref (a 2)) q_195 rfl d_Prc_useAccumulator_189 ?_
                refine lv_aload_n hx hb d_Prc_useAccumulator_192 rfl (lv_at hl 4 rfl) ?_
                refine gt_Prc X hP 1 (by decide) (v := .ref (a 2)) q_195 rfl d_Prc_useAccumulator_193 ?_
                refine kv_v (rest := [.ref (a 2)]) X hP hS (c_Reg_a l D cB cI a bz ha S33) (kw_Reg_a hts q_396 ⟨Nat.le_of_ble_eq_true rfl, Nat.le_of_ble_eq_true rfl⟩) 2 rfl rfl rfl hl.1 rfl (lv_room (Nat.le_of_ble_eq_true rfl)) d_Prc_useAccumulator_196 (fun H locs hP hS => ?_)
                refine lv_iload hx hb d_Prc_useAccumulator_199 (lv_at hl 0 rfl) ?_
                refine lv_ixor hx hb d_Prc_useAccumulator_201 ?_
                refine kv_s (rest := []) X hP hS (c_Reg_loadA l D cB cI a bz ha S33 ((f_Reg_a S33) ^^^ r32)) (kw_Reg_loadA hts q_401 ⟨Nat.le_of_ble_eq_true rfl, Nat.le_of_ble_eq_true rfl⟩) 2 rfl rfl rfl hl.1 rfl (lv_room (Nat.le_of_ble_eq_true rfl)) d_Prc_useAccumulator_202 (fun S42 H locs e43 hP hS => ?_)
                refine lv_goto (tgt := 266) hx hb d_Prc_useAccumulator_205 rfl ?_
                refine lv_iconst (v := (1 : Int32)) hx hb d_Prc_useAccumulator_266 (by decide) ?_
                exact rt_z X hr hk hP hS (by decide) (by rw [f_Prc_useAccumulator, if_neg h1, if_neg h2, if_neg h3, if_pos h4, bn_eq e34, if_neg h35, if_neg h38, if_pos h41, bs_eq e43]) d_Prc_useAccumulator_267
              ·
                by_cases h44 : (x1 >>> ((5 : Int32) &&& 31)) = (3 : Int32)
                ·
                  refine sw_t (k := (3 : Int32)) (tgt := 208) hx hb d_Prc_useAccumulator_103 h44 rfl ?_
                  refine lv_aload_n hx hb d_Prc_useAccumulator_208 rfl (lv_at hl 4 rfl) ?_
                  refine lv_iload hx hb d_Prc_useAccumulator_209 (lv_at hl 0 rfl) ?_
                  refine kv_s (rest := []) X hP hS (c_Prc_addToA l D cB cI a bz ha S33 r32) (kw_Prc_addToA hts q_413 ⟨Nat.le_of_ble_eq_true rfl, Nat.le_of_ble_eq_true rfl⟩) 3 rfl rfl rfl hl.1 rfl (lv_room (Nat.le_of_ble_eq_true rfl)) d_Prc_useAccumulator_211 (fun S45 H locs e46 hP hS => ?_)
                  refine lv_goto (tgt := 266) hx hb d_Prc_useAccumulator_214 rfl ?_
                  refine lv_iconst (v := (1 : Int32)) hx hb d_Prc_useAccumulator_266 (by decide) ?_
                  exact rt_z X hr hk hP hS (by decide) (by rw [f_Prc_useAccumulator, if_neg h1, if_neg h2, if_neg h3, if_pos h4, bn_eq e34, if_neg h35, if_neg h38, if_neg h41, if_pos h44, bs_eq e46]) d_Prc_useAccumulator_267
                ·
                  by_cases h47 : (x1 >>> ((5 : Int32) &&& 31)) = (5 : Int32)
                  ·
                    refine sw_t (k := (5 : Int32)) (tgt := 217) hx hb d_Prc_useAccumulator_103 h47 rfl ?_
                    refine lv_aload_n hx hb d_Prc_useAccumulator_217 rfl (lv_at hl 4 rfl) ?_
                    refine gt_Prc X hP 1 (by decide) (v := .ref (a 2)) q_195 rfl d_Prc_useAccumulator_218 ?_
                    refine lv_iload hx hb d_Prc_useAccumulator_221 (lv_at hl 0 rfl) ?_
                    refine kv_s (rest := []) X hP hS (c_Reg_loadA l D cB cI a bz ha S33 r32) (kw_Reg_loadA hts q_401 ⟨Nat.le_of_ble_eq_true rfl, Nat.le_of_ble_eq_true rfl⟩) 2 rfl rfl rfl hl.1 rfl (lv_room (Nat.le_of_ble_eq_true rfl)) d_Prc_useAccumulator_223 (fun S48 H locs e49 hP hS => ?_)
                    refine lv_goto (tgt := 266) hx hb d_Prc_useAccumulator_226 rfl ?_
                    refine lv_iconst (v := (1 : Int32)) hx hb d_Prc_useAccumulator_266 (by decide) ?_
                    exact rt_z X hr hk hP hS (by decide) (by rw [f_Prc_useAccumulator, if_neg h1, if_neg h2, if_neg h3, if_pos h4, bn_eq e34, if_neg h35, if_neg h38, if_neg h41, if_neg h44, if_pos h47, bs_eq e49]) d_Prc_useAccumulator_267
                  ·
                    by_cases h50 : (x1 >>> ((5 : Int32) &&& 31)) = (6 : Int32)
                    ·
                      refine sw_t (k := (6 : Int32)) (tgt := 229) hx hb d_Prc_useAccumulator_103 h50 rfl ?_
                      refine lv_aload_n hx hb d_Prc_useAccumulator_229 rfl (lv_at hl 4 rfl) ?_
                      refine lv_aload_n hx hb d_Prc_useAccumulator_230 rfl (lv_at hl 4 rfl) ?_
                      refine gt_Prc X hP 1 (by decide) (v := .ref (a 2)) q_195 rfl d_Prc_useAccumulator_231 ?_
                      refine kv_v (rest := [.ref (a 3)]) X hP hS (c_Reg_a l D cB cI a bz ha S33) (kw_Reg_a hts q_396 ⟨Nat.le_of_ble_eq_true rfl, Nat.le_of_ble_eq_true rfl⟩) 2 rfl rfl rfl hl.1 rfl (lv_room (Nat.le_of_ble_eq_true rfl)) d_Prc_useAccumulator_234 (fun H locs hP hS => ?_)
                      refine lv_iload hx hb d_Prc_useAccumulator_237 (lv_at hl 0 rfl) ?_
                      refine lv_iload hx hb d_Prc_useAccumulator_239 (lv_at hl 1 rfl) ?_
                      refine kv_s (rest := []) X hP hS (c_Prc_compare l D cB cI a bz ha S33 (f_Reg_a S33) r32 (f_Reg_wideA S)) (kw_Prc_compare hts q_419 ⟨Nat.le_of_ble_eq_true rfl, Nat.le_of_ble_eq_true rfl⟩) 3 rfl rfl rfl hl.1 rfl (lv_room (Nat.le_of_ble_eq_true rfl)) d_Prc_useAccumulator_241 (fun S51 H locs e52 hP hS => ?_)
                      refine lv_goto (tgt := 266) hx hb d_Prc_useAccumulator_244 rfl ?_
                      refine lv_iconst (v := (1 : Int32)) hx hb d_Prc_useAccumulator_266 (by decide) ?_
                      exact rt_z X hr hk hP hS (by decide) (by rw [f_Prc_useAccumulator, if_neg h1, if_neg h2, if_neg h3, if_pos h4, bn_eq e34, if_neg h35, if_neg h38, if_neg h41, if_neg h44, if_neg h47, if_pos h50, bs_eq e52]) d_Prc_useAccumulator_267
                    ·
                      by_cases h53 : (x1 >>> ((5 : Int32) &&& 31)) = (7 : Int32)
                      ·
                        refine sw_t (k := (7 : Int32)) (tgt := 247) hx hb d_Prc_useAccumulator_103 h53 rfl ?_
                        refine lv_aload_n hx hb d_Prc_useAccumulator_247 rfl (lv_at hl 4 rfl) ?_
                        refine lv_iload hx hb d_Prc_useAccumulator_248 (lv_at hl 0 rfl) ?_
                        refine lv_iconst (v := (-1 : Int32)) hx hb d_Prc_useAccumulator_250 (by decide) ?_
                        refine lv_ixor hx hb d_Prc_useAccumulator_251 ?_
                        refine lv_iload hx hb d_Prc_useAccumulator_252 (lv_at hl 1 rfl) ?_
                        refine ks_v (rest := [.int ((r32 ^^^ (-1 : Int32))), .ref (a 3)]) X hP hS (c_Reg_maskOf l D cB cI a bz ha S33 (f_Reg_wideA S)) (kw_Reg_maskOf hts q_418 ⟨Nat.le_of_ble_eq_true rfl, Nat.le_of_ble_eq_true rfl⟩) rfl hl.1 rfl (lv_room (Nat.le_of_ble_eq_true rfl)) d_Prc_useAccumulator_254 (fun H locs hP hS => ?_)
                        refine lv_iand hx hb d_Prc_useAccumulator_257 ?_
                        refine kv_s (rest := []) X hP hS (c_Prc_addToA l D cB cI a bz ha S33 ((r32 ^^^ (-1 : Int32)) &&& (f_Reg_maskOf (f_Reg_wideA S)))) (kw_Prc_addToA hts q_413 ⟨Nat.le_of_ble_eq_true rfl, Nat.le_of_ble_eq_true rfl⟩) 3 rfl rfl rfl hl.1 rfl (lv_room (Nat.le_of_ble_eq_true rfl)) d_Prc_useAccumulator_258 (fun S54 H locs e55 hP hS => ?_)
                        refine lv_goto (tgt := 266) hx hb d_Prc_useAccumulator_261 rfl ?_
                        refine lv_iconst (v := (1 : Int32)) hx hb d_Prc_useAccumulator_266 (by decide) ?_
                        exact rt_z X hr hk hP hS (by decide) (by rw [f_Prc_useAccumulator, if_neg h1, if_neg h2, if_neg h3, if_pos h4, bn_eq e34, if_neg h35, if_neg h38, if_neg h41, if_neg h44, if_neg h47, if_neg h50, if_pos h53, bs_eq e55]) d_Prc_useAccumulator_267
                      ·
                        refine sn_t (tgt := 264) hx hb d_Prc_useAccumulator_103 (by have g0 := lv_neT (a := 0) h35 rfl; have g1 := lv_neT (a := 1) h38 rfl; have g2 := lv_neT (a := 2) h41 rfl; have g3 := lv_neT (a := 3) h44 rfl; have g4 := lv_neT (a := 4) h3 rfl; have g5 := lv_neT (a := 5) h47 rfl; have g6 := lv_neT (a := 6) h50 rfl; have g7 := lv_neT (a := 7) h53 rfl; omega) rfl ?_
                        refine lv_iconst (v := (0 : Int32)) hx hb d_Prc_useAccumulator_264 (by decide) ?_
                        exact rt_z X hr hk hP hS (by decide) (by rw [f_Prc_useAccumulator, if_neg h1, if_neg h2, if_neg h3, if_pos h4, bn_eq e34, if_neg h35, if_neg h38, if_neg h41, if_neg h44, if_neg h47, if_neg h50, if_neg h53]) d_Prc_useAccumulator_265
      ·
        refine lv_aload_n hx hb d_Prc_useAccumulator_39 rfl (lv_at hl 3 rfl) ?_
        refine gt_Prc X hP 0 (by decide) (v := .ref (a 1)) q_194 rfl d_Prc_useAccumulator_40 ?_
        refine lv_aload_n hx hb d_Prc_useAccumulator_43 rfl (lv_at hl 3 rfl) ?_
        refine gt_Prc X hP 2 (by decide) (v := .ref (a 4)) q_196 rfl d_Prc_useAccumulator_44 ?_
        refine lv_iload_n hx hb d_Prc_useAccumulator_47 rfl (lv_at hl 2 rfl) ?_
        refine kv_vs (rest := [.ref (a 1)]) X hP hS (c_Opd_place l D cB cI a bz ha S (x1 &&& (31 : Int32))) (kw_Opd_place hts q_350 ⟨Nat.le_of_ble_eq_true rfl, Nat.le_of_ble_eq_true rfl⟩) 4 rfl rfl rfl hl.1 rfl (lv_room (Nat.le_of_ble_eq_true rfl)) d_Prc_useAccumulator_48 (fun r56 S57 H locs e58 hP hS => ?_)
        refine lv_aload_n hx hb d_Prc_useAccumulator_51 rfl (lv_at hl 3 rfl) ?_
        refine gt_Prc X hP 1 (by decide) (v := .ref (a 2)) q_195 rfl d_Prc_useAccumulator_52 ?_
        refine gt_Reg X hP 0 (by decide) (v := .int (S57.1 0)) q_108 rfl d_Prc_useAccumulator_55 ?_
        refine lv_iload hx hb d_Prc_useAccumulator_58 (lv_at hl 0 rfl) ?_
        refine kv_s (rest := []) X hP hS (c_Bus_writeValue l D cB cI a bz ha S57 r56 (S57.1 0) (f_Reg_wideA S)) (kw_Bus_writeValue hts q_382 ⟨Nat.le_of_ble_eq_true rfl, Nat.le_of_ble_eq_true rfl⟩) 1 rfl rfl rfl hl.1 rfl (lv_room (Nat.le_of_ble_eq_true rfl)) d_Prc_useAccumulator_60 (fun S59 H locs e60 hP hS => ?_)
        refine lv_iconst (v := (1 : Int32)) hx hb d_Prc_useAccumulator_63 (by decide) ?_
        exact rt_z X hr hk hP hS (by decide) (by rw [f_Prc_useAccumulator, if_neg h1, if_neg h2, if_pos h3, bn_eq e58, bs_eq e60]) d_Prc_useAccumulator_64
    ·
      refine lv_iconst (v := (0 : Int32)) hx hb d_Prc_useAccumulator_23 (by decide) ?_
      exact rt_z X hr hk hP hS (by decide) (by rw [f_Prc_useAccumulator, if_neg h1, if_pos h2]) d_Prc_useAccumulator_24
set_option maxHeartbeats 4000000 in
set_option maxRecDepth 100000 in
theorem c_Prc_useIndex (l : Launch) (D : va_G) (cB cI : ClassId) (a : Nat → Nat) (bz : Nat) (ha : ap a 8) (S : Sc) (x1 : Int32) : MI l y_Prc_useIndex b_Prc_useIndex 3 (some .boolean) rm_Prc_useIndex [.ref (a 3), .int x1] D cB cI (wdC cB cI a) (ow a 8) bz S (f_Prc_useIndex S x1) := by
  refine met_in R_Prc (by decide) rfl (Nat.le_of_ble_eq_true rfl) (wdC_D ha cB cI) ?_
  intro p e s m below meth c ls X hr hk hl hP hS
  have hx := X.1.1
  have hb := X.1.2.1
  have hown := X.1.2.2.2.1
  have hts := X.1.2.2.2.2
  have hl : lv_has ls 3 [(0, .ref (a 3)), (1, .int x1)] := hl
  refine lv_aload_n hx hb d_Prc_useIndex_0 rfl (lv_at hl 0 rfl) ?_
  refine gt_Prc X hP 1 (by decide) (v := .ref (a 2)) q_195 rfl d_Prc_useIndex_1 ?_
  refine kv_v (rest := []) X hP hS (c_Reg_wideIndex l D cB cI a bz ha S) (kw_Reg_wideIndex hts q_428 ⟨Nat.le_of_ble_eq_true rfl, Nat.le_of_ble_eq_true rfl⟩) 2 rfl rfl rfl hl.1 rfl (lv_room (Nat.le_of_ble_eq_true rfl)) d_Prc_useIndex_4 (fun H locs hP hS => ?_)
  refine lv_istore_n hx hb d_Prc_useIndex_7 rfl hl (Nat.le_of_ble_eq_true rfl) rfl (fun ls hl => ?_)
  have hl : lv_has ls 3 [(2, .int ((f_Reg_wideIndex S))), (0, .ref (a 3)), (1, .int (x1))] := hl
  refine lv_iload_n hx hb d_Prc_useIndex_8 rfl (lv_at hl 2 rfl) ?_
  by_cases h1 : x1 = (132 : Int32)
  ·
    refine sw_l (k := (132 : Int32)) (tgt := 357) hx hb d_Prc_useIndex_9 h1 rfl ?_
    refine lv_aload_n hx hb d_Prc_useIndex_357 rfl (lv_at hl 1 rfl) ?_
    refine gt_Prc X hP 0 (by decide) (v := .ref (a 1)) q_194 rfl d_Prc_useIndex_358 ?_
    refine lv_aload_n hx hb d_Prc_useIndex_361 rfl (lv_at hl 1 rfl) ?_
    refine gt_Prc X hP 2 (by decide) (v := .ref (a 4)) q_196 rfl d_Prc_useIndex_362 ?_
    refine lv_iconst (v := (5 : Int32)) hx hb d_Prc_useIndex_365 (by decide) ?_
    refine kv_vs (rest := [.ref (a 1)]) X hP hS (c_Opd_place l D cB cI a bz ha S (5 : Int32)) (kw_Opd_place hts q_350 ⟨Nat.le_of_ble_eq_true rfl, Nat.le_of_ble_eq_true rfl⟩) 4 rfl rfl rfl hl.1 rfl (lv_room (Nat.le_of_ble_eq_true rfl)) d_Prc_useIndex_366 (fun r2 S3 H locs e4 hP hS => ?_)
    refine lv_aload_n hx hb d_Prc_useIndex_369 rfl (lv_at hl 1 rfl) ?_
    refine gt_Prc X hP 1 (by decide) (v := .ref (a 2)) q_195 rfl d_Prc_useIndex_370 ?_
    refine gt_Reg X hP 2 (by decide) (v := .int (S3.1 2)) q_117 rfl d_Prc_useIndex_373 ?_
    refine lv_iload_n hx hb d_Prc_useIndex_376 rfl (lv_at hl 0 rfl) ?_
    refine kv_s (rest := []) X hP hS (c_Bus_writeValue l D cB cI a bz ha S3 r2 (S3.1 2) (f_Reg_wideIndex S)) (kw_Bus_writeValue hts q_382 ⟨Nat.le_of_ble_eq_true rfl, Nat.le_of_ble_eq_true rfl⟩) 1 rfl rfl rfl hl.1 rfl (lv_room (Nat.le_of_ble_eq_true rfl)) d_Prc_useIndex_377 (fun S5 H locs e6 hP hS => ?_)
    refine lv_goto (tgt := 412) hx hb d_Prc_useIndex_380 rfl ?_
    refine lv_iconst (v := (1 : Int32)) hx hb d_Prc_useIndex_412 (by decide) ?_
    exact rt_z X hr hk hP hS (by decide) (by rw [f_Prc_useIndex, if_pos h1, bn_eq e4, bs_eq e6]) d_Prc_useIndex_413
  ·
    by_cases h7 : x1 = (134 : Int32)
    ·
      refine sw_l (k := (134 : Int32)) (tgt := 304) hx hb d_Prc_useIndex_9 h7 rfl ?_
      refine lv_aload_n hx hb d_Prc_useIndex_304 rfl (lv_at hl 1 rfl) ?_
      refine gt_Prc X hP 0 (by decide) (v := .ref (a 1)) q_194 rfl d_Prc_useIndex_305 ?_
      refine lv_aload_n hx hb d_Prc_useIndex_308 rfl (lv_at hl 1 rfl) ?_
      refine gt_Prc X hP 2 (by decide) (v := .ref (a 4)) q_196 rfl d_Prc_useIndex_309 ?_
      refine lv_iconst (v := (5 : Int32)) hx hb d_Prc_useIndex_312 (by decide) ?_
      refine kv_vs (rest := [.ref (a 1)]) X hP hS (c_Opd_place l D cB cI a bz ha S (5 : Int32)) (kw_Opd_place hts q_350 ⟨Nat.le_of_ble_eq_true rfl, Nat.le_of_ble_eq_true rfl⟩) 4 rfl rfl rfl hl.1 rfl (lv_room (Nat.le_of_ble_eq_true rfl)) d_Prc_useIndex_313 (fun r8 S9 H locs e10 hP hS => ?_)
      refine lv_aload_n hx hb d_Prc_useIndex_316 rfl (lv_at hl 1 rfl) ?_
      refine gt_Prc X hP 1 (by decide) (v := .ref (a 2)) q_195 rfl d_Prc_useIndex_317 ?_
      refine gt_Reg X hP 1 (by decide) (v := .int (S9.1 1)) q_113 rfl d_Prc_useIndex_320 ?_
      refine lv_iload_n hx hb d_Prc_useIndex_323 rfl (lv_at hl 0 rfl) ?_
      refine kv_s (rest := []) X hP hS (c_Bus_writeValue l D cB cI a bz ha S9 r8 (S9.1 1) (f_Reg_wideIndex S)) (kw_Bus_writeValue hts q_382 ⟨Nat.le_of_ble_eq_true rfl, Nat.le_of_ble_eq_true rfl⟩) 1 rfl rfl rfl hl.1 rfl (lv_room (Nat.le_of_ble_eq_true rfl)) d_Prc_useIndex_324 (fun S11 H locs e12 hP hS => ?_)
      refine lv_goto (tgt := 412) hx hb d_Prc_useIndex_327 rfl ?_
      refine lv_iconst (v := (1 : Int32)) hx hb d_Prc_useIndex_412 (by decide) ?_
      exact rt_z X hr hk hP hS (by decide) (by rw [f_Prc_useIndex, if_neg h1, if_pos h7, bn_eq e10, bs_eq e12]) d_Prc_useIndex_413
    ·
      by_cases h13 : x1 = (140 : Int32)
      ·
        refine sw_l (k := (140 : Int32)) (tgt := 383) hx hb d_Prc_useIndex_9 h13 rfl ?_
        refine lv_aload_n hx hb d_Prc_useIndex_383 rfl (lv_at hl 1 rfl) ?_
        refine gt_Prc X hP 0 (by decide) (v := .ref (a 1)) q_194 rfl d_Prc_useIndex_384 ?_
        refine lv_aload_n hx hb d_Prc_useIndex_387 rfl (lv_at hl 1 rfl) ?_
        refine gt_Prc X hP 2 (by decide) (v := .ref (a 4)) q_196 rfl d_Prc_useIndex_388 ?_
        refine lv_bipush (v := (13 : Int32)) hx hb d_Prc_useIndex_391 (by decide) ?_
        refine kv_vs (rest := [.ref (a 1)]) X hP hS (c_Opd_place l D cB cI a bz ha S (13 : Int32)) (kw_Opd_place hts q_350 ⟨Nat.le_of_ble_eq_true rfl, Nat.le_of_ble_eq_true rfl⟩) 4 rfl rfl rfl hl.1 rfl (lv_room (Nat.le_of_ble_eq_true rfl)) d_Prc_useIndex_393 (fun r14 S15 H locs e16 hP hS => ?_)
        refine lv_aload_n hx hb d_Prc_useIndex_396 rfl (lv_at hl 1 rfl) ?_
        refine gt_Prc X hP 1 (by decide) (v := .ref (a 2)) q_195 rfl d_Prc_useIndex_397 ?_
        refine gt_Reg X hP 2 (by decide) (v := .int (S15.1 2)) q_117 rfl d_Prc_useIndex_400 ?_
        refine lv_iload_n hx hb d_Prc_useIndex_403 rfl (lv_at hl 0 rfl) ?_
        refine kv_s (rest := []) X hP hS (c_Bus_writeValue l D cB cI a bz ha S15 r14 (S15.1 2) (f_Reg_wideIndex S)) (kw_Bus_writeValue hts q_382 ⟨Nat.le_of_ble_eq_true rfl, Nat.le_of_ble_eq_true rfl⟩) 1 rfl rfl rfl hl.1 rfl (lv_room (Nat.le_of_ble_eq_true rfl)) d_Prc_useIndex_404 (fun S17 H locs e18 hP hS => ?_)
        refine lv_goto (tgt := 412) hx hb d_Prc_useIndex_407 rfl ?_
        refine lv_iconst (v := (1 : Int32)) hx hb d_Prc_useIndex_412 (by decide) ?_
        exact rt_z X hr hk hP hS (by decide) (by rw [f_Prc_useIndex, if_neg h1, if_neg h7, if_pos h13, bn_eq e16, bs_eq e18]) d_Prc_useIndex_413
      ·
        by_cases h19 : x1 = (142 : Int32)
        ·
          refine sw_l (k := (142 : Int32)) (tgt := 330) hx hb d_Prc_useIndex_9 h19 rfl ?_
          refine lv_aload_n hx hb d_Prc_useIndex_330 rfl (lv_at hl 1 rfl) ?_
          refine gt_Prc X hP 0 (by decide) (v := .ref (a 1)) q_194 rfl d_Prc_useIndex_331 ?_
          refine lv_aload_n hx hb d_Prc_useIndex_334 rfl (lv_at hl 1 rfl) ?_
          refine gt_Prc X hP 2 (by decide) (v := .ref (a 4)) q_196 rfl d_Prc_useIndex_335 ?_
          refine lv_bipush (v := (13 : Int32)) hx hb d_Prc_useIndex_338 (by decide) ?_
          refine kv_vs (rest := [.ref (a 1)]) X hP hS (c_Opd_place l D cB cI a bz ha S (13 : Int32)) (kw_Opd_place hts q_350 ⟨Nat.le_of_ble_eq_true rfl, Nat.le_of_ble_eq_true rfl⟩) 4 rfl rfl rfl hl.1 rfl (lv_room (Nat.le_of_ble_eq_true rfl)) d_Prc_useIndex_340 (fun r20 S21 H locs e22 hP hS => ?_)
          refine lv_aload_n hx hb d_Prc_useIndex_343 rfl (lv_at hl 1 rfl) ?_
          refine gt_Prc X hP 1 (by decide) (v := .ref (a 2)) q_195 rfl d_Prc_useIndex_344 ?_
          refine gt_Reg X hP 1 (by decide) (v := .int (S21.1 1)) q_113 rfl d_Prc_useIndex_347 ?_
          refine lv_iload_n hx hb d_Prc_useIndex_350 rfl (lv_at hl 0 rfl) ?_
          refine kv_s (rest := []) X hP hS (c_Bus_writeValue l D cB cI a bz ha S21 r20 (S21.1 1) (f_Reg_wideIndex S)) (kw_Bus_writeValue hts q_382 ⟨Nat.le_of_ble_eq_true rfl, Nat.le_of_ble_eq_true rfl⟩) 1 rfl rfl rfl hl.1 rfl (lv_room (Nat.le_of_ble_eq_true rfl)) d_Prc_useIndex_351 (fun S23 H locs e24 hP hS => ?_)
          refine lv_goto (tgt := 412) hx hb d_Prc_useIndex_354 rfl ?_
          refine lv_iconst (v := (1 : Int32)) hx hb d_Prc_useIndex_412 (by decide) ?_
          exact rt_z X hr hk hP hS (by decide) (by rw [f_Prc_useIndex, if_neg h1, if_neg h7, if_neg h13, if_pos h19, bn_eq e22, bs_eq e24]) d_Prc_useIndex_413
        ·
          by_cases h25 : x1 = (160 : Int32)
          ·
            refine sw_l (k := (160 : Int32)) (tgt := 187) hx hb d_Prc_useIndex_9 h25 rfl ?_
            refine lv_aload_n hx hb d_Prc_useIndex_187 rfl (lv_at hl 1 rfl) ?_
            refine gt_Prc X hP 1 (by decide) (v := .ref (a 2)) q_195 rfl d_Prc_useIndex_188 ?_
            refine lv_aload_n hx hb d_Prc_useIndex_191 rfl (lv_at hl 1 rfl) ?_
            refine gt_Prc X hP 2 (by decide) (v := .ref (a 4)) q_196 rfl d_Prc_useIndex_192 ?_
            refine lv_iload_n hx hb d_Prc_useIndex_195 rfl (lv_at hl 0 rfl) ?_
            refine kv_vs (rest := [.ref (a 2)]) X hP hS (c_Opd_nextValue l D cB cI a bz ha S (f_Reg_wideIndex S)) (kw_Opd_nextValue hts q_387 ⟨Nat.le_of_ble_eq_true rfl, Nat.le_of_ble_eq_true rfl⟩) 4 rfl rfl rfl hl.1 rfl (lv_room (Nat.le_of_ble_eq_true rfl)) d_Prc_useIndex_196 (fun r26 S27 H locs e28 hP hS => ?_)
            refine kv_s (rest := []) X hP hS (c_Reg_loadY l D cB cI a bz ha S27 r26) (kw_Reg_loadY hts q_433 ⟨Nat.le_of_ble_eq_true rfl, Nat.le_of_ble_eq_true rfl⟩) 2 rfl rfl rfl hl.1 rfl (lv_room (Nat.le_of_ble_eq_true rfl)) d_Prc_useIndex_199 (fun S29 H locs e30 hP hS => ?_)
            refine lv_goto (tgt := 412) hx hb d_Prc_useIndex_202 rfl ?_
            refine lv_iconst (v := (1 : Int32)) hx hb d_Prc_useIndex_412 (by decide) ?_
            exact rt_z X hr hk hP hS (by decide) (by rw [f_Prc_useIndex, if_neg h1, if_neg h7, if_neg h13, if_neg h19, if_pos h25, bn_eq e28, bs_eq e30]) d_Prc_useIndex_413
          ·
            by_cases h31 : x1 = (162 : Int32)
            ·
              refine sw_l (k := (162 : Int32)) (tgt := 116) hx hb d_Prc_useIndex_9 h31 rfl ?_
              refine lv_aload_n hx hb d_Prc_useIndex_116 rfl (lv_at hl 1 rfl) ?_
              refine gt_Prc X hP 1 (by decide) (v := .ref (a 2)) q_195 rfl d_Prc_useIndex_117 ?_
              refine lv_aload_n hx hb d_Prc_useIndex_120 rfl (lv_at hl 1 rfl) ?_
              refine gt_Prc X hP 2 (by decide) (v := .ref (a 4)) q_196 rfl d_Prc_useIndex_121 ?_
              refine lv_iload_n hx hb d_Prc_useIndex_124 rfl (lv_at hl 0 rfl) ?_
              refine kv_vs (rest := [.ref (a 2)]) X hP hS (c_Opd_nextValue l D cB cI a bz ha S (f_Reg_wideIndex S)) (kw_Opd_nextValue hts q_387 ⟨Nat.le_of_ble_eq_true rfl, Nat.le_of_ble_eq_true rfl⟩) 4 rfl rfl rfl hl.1 rfl (lv_room (Nat.le_of_ble_eq_true rfl)) d_Prc_useIndex_125 (fun r32 S33 H locs e34 hP hS => ?_)
              refine kv_s (rest := []) X hP hS (c_Reg_loadX l D cB cI a bz ha S33 r32) (kw_Reg_loadX hts q_429 ⟨Nat.le_of_ble_eq_true rfl, Nat.le_of_ble_eq_true rfl⟩) 2 rfl rfl rfl hl.1 rfl (lv_room (Nat.le_of_ble_eq_true rfl)) d_Prc_useIndex_128 (fun S35 H locs e36 hP hS => ?_)
              refine lv_goto (tgt := 412) hx hb d_Prc_useIndex_131 rfl ?_
              refine lv_iconst (v := (1 : Int32)) hx hb d_Prc_useIndex_412 (by decide) ?_
              exact rt_z X hr hk hP hS (by decide) (by rw [f_Prc_useIndex, if_neg h1, if_neg h7, if_neg h13, if_neg h19, if_neg h25, if_pos h31, bn_eq e34, bs_eq e36]) d_Prc_useIndex_413
            ·
              by_cases h37 : x1 = (164 : Int32)
              ·
                refine sw_l (k := (164 : Int32)) (tgt := 205) hx hb d_Prc_useIndex_9 h37 rfl ?_
                refine lv_aload_n hx hb d_Prc_useIndex_205 rfl (lv_at hl 1 rfl) ?_
                refine gt_Prc X hP 1 (by decide) (v := .ref (a 2)) q_195 rfl d_Prc_useIndex_206 ?_
                refine lv_aload_n hx hb d_Prc_useIndex_209 rfl (lv_at hl 1 rfl) ?_
                refine gt_Prc X hP 0 (by decide) (v := .ref (a 1)) q_194 rfl d_Prc_useIndex_210 ?_
                refine lv_aload_n hx hb d_Prc_useIndex_213 rfl (lv_at hl 1 rfl) ?_
                refine gt_Prc X hP 2 (by decide) (v := .ref (a 4)) q_196 rfl d_Prc_useIndex_214 ?_
                refine lv_iconst (v := (5 : Int32)) hx hb d_Prc_useIndex_217 (by decide) ?_
                refine kv_vs (rest := [.ref (a 1), .ref (a 2)]) X hP hS (c_Opd_place l D cB cI a bz ha S (5 : Int32)) (kw_Opd_place hts q_350 ⟨Nat.le_of_ble_eq_true rfl, Nat.le_of_ble_eq_true rfl⟩) 4 rfl rfl rfl hl.1 rfl (lv_room (Nat.le_of_ble_eq_true rfl)) d_Prc_useIndex_218 (fun r38 S39 H locs e40 hP hS => ?_)
                refine lv_iload_n hx hb d_Prc_useIndex_221 rfl (lv_at hl 0 rfl) ?_
                refine kv_vs (rest := [.ref (a 2)]) X hP hS (c_Bus_readValue l D cB cI a bz ha S39 r38 (f_Reg_wideIndex S)) (kw_Bus_readValue hts q_391 ⟨Nat.le_of_ble_eq_true rfl, Nat.le_of_ble_eq_true rfl⟩) 1 rfl rfl rfl hl.1 rfl (lv_room (Nat.le_of_ble_eq_true rfl)) d_Prc_useIndex_222 (fun r41 S42 H locs e43 hP hS => ?_)
                refine kv_s (rest := []) X hP hS (c_Reg_loadY l D cB cI a bz ha S42 r41) (kw_Reg_loadY hts q_433 ⟨Nat.le_of_ble_eq_true rfl, Nat.le_of_ble_eq_true rfl⟩) 2 rfl rfl rfl hl.1 rfl (lv_room (Nat.le_of_ble_eq_true rfl)) d_Prc_useIndex_225 (fun S44 H locs e45 hP hS => ?_)
                refine lv_goto (tgt := 412) hx hb d_Prc_useIndex_228 rfl ?_
                refine lv_iconst (v := (1 : Int32)) hx hb d_Prc_useIndex_412 (by decide) ?_
                exact rt_z X hr hk hP hS (by decide) (by rw [f_Prc_useIndex, if_neg h1, if_neg h7, if_neg h13, if_neg h19, if_neg h25, if_neg h31, if_pos h37, bn_eq e40, bn_eq e43, bs_eq e45]) d_Prc_useIndex_413
              ·
                by_cases h46 : x1 = (166 : Int32)
                ·
                  refine sw_l (k := (166 : Int32)) (tgt := 134) hx hb d_Prc_useIndex_9 h46 rfl ?_
                  refine lv_aload_n hx hb d_Prc_useIndex_134 rfl (lv_at hl 1 rfl) ?_
                  refine gt_Prc X hP 1 (by decide) (v := .ref (a 2)) q_195 rfl d_Prc_useIndex_135 ?_
                  refine lv_aload_n hx hb d_Prc_useIndex_138 rfl (lv_at hl 1 rfl) ?_
                  refine gt_Prc X hP 0 (by decide) (v := .ref (a 1)) q_194 rfl d_Prc_useIndex_139 ?_
                  refine lv_aload_n hx hb d_Prc_useIndex_142 rfl (lv_at hl 1 rfl) ?_
                  refine gt_Prc X hP 2 (by decide) (v := .ref (a 4)) q_196 rfl d_Prc_useIndex_143 ?_
                  refine lv_iconst (v := (5 : Int32)) hx hb d_Prc_useIndex_146 (by decide) ?_
                  refine kv_vs (rest := [.ref (a 1), .ref (a 2)]) X hP hS (c_Opd_place l D cB cI a bz ha S (5 : Int32)) (kw_Opd_place hts q_350 ⟨Nat.le_of_ble_eq_true rfl, Nat.le_of_ble_eq_true rfl⟩) 4 rfl rfl rfl hl.1 rfl (lv_room (Nat.le_of_ble_eq_true rfl)) d_Prc_useIndex_147 (fun r47 S48 H locs e49 hP hS => ?_)
                  refine lv_iload_n hx hb d_Prc_useIndex_150 rfl (lv_at hl 0 rfl) ?_
                  refine kv_vs (rest := [.ref (a 2)]) X hP hS (c_Bus_readValue l D cB cI a bz ha S48 r47 (f_Reg_wideIndex S)) (kw_Bus_readValue hts q_391 ⟨Nat.le_of_ble_eq_true rfl, Nat.le_of_ble_eq_true rfl⟩) 1 rfl rfl rfl hl.1 rfl (lv_room (Nat.le_of_ble_eq_true rfl)) d_Prc_useIndex_151 (fun r50 S51 H locs e52 hP hS => ?_)
                  refine kv_s (rest := []) X hP hS (c_Reg_loadX l D cB cI a bz ha S51 r50) (kw_Reg_loadX hts q_429 ⟨Nat.le_of_ble_eq_true rfl, Nat.le_of_ble_eq_true rfl⟩) 2 rfl rfl rfl hl.1 rfl (lv_room (Nat.le_of_ble_eq_true rfl)) d_Prc_useIndex_154 (fun S53 H locs e54 hP hS => ?_)
                  refine lv_goto (tgt := 412) hx hb d_Prc_useIndex_157 rfl ?_
                  refine lv_iconst (v := (1 : Int32)) hx hb d_Prc_useIndex_412 (by decide) ?_
                  exact rt_z X hr hk hP hS (by decide) (by rw [f_Prc_useIndex, if_neg h1, if_neg h7, if_neg h13, if_neg h19, if_neg h25, if_neg h31, if_neg h37, if_pos h46, bn_eq e49, bn_eq e52, bs_eq e54]) d_Prc_useIndex_413
                ·
                  by_cases h55 : x1 = (172 : Int32)
                  ·
                    refine sw_l (k := (172 : Int32)) (tgt := 231) hx hb d_Prc_useIndex_9 h55 rfl ?_
                    refine lv_aload_n hx hb d_Prc_useIndex_231 rfl (lv_at hl 1 rfl) ?_
                    refine gt_Prc X hP 1 (by decide) (v := .ref (a 2)) q_195 rfl d_Prc_useIndex_232 ?_
                    refine lv_aload_n hx hb d_Prc_useIndex_235 rfl (lv_at hl 1 rfl) ?_
                    refine gt_Prc X hP 0 (by decide) (v := .ref (a 1)) q_194 rfl d_Prc_useIndex_236 ?_
                    refine lv_aload_n hx hb d_Prc_useIndex_239 rfl (lv_at hl 1 rfl) ?_
                    refine gt_Prc X hP 2 (by decide) (v := .ref (a 4)) q_196 rfl d_Prc_useIndex_240 ?_
                    refine lv_bipush (v := (13 : Int32)) hx hb d_Prc_useIndex_243 (by decide) ?_
                    refine kv_vs (rest := [.ref (a 1), .ref (a 2)]) X hP hS (c_Opd_place l D cB cI a bz ha S (13 : Int32)) (kw_Opd_place hts q_350 ⟨Nat.le_of_ble_eq_true rfl, Nat.le_of_ble_eq_true rfl⟩) 4 rfl rfl rfl hl.1 rfl (lv_room (Nat.le_of_ble_eq_true rfl)) d_Prc_useIndex_245 (fun r56 S57 H locs e58 hP hS => ?_)
                    refine lv_iload_n hx hb d_Prc_useIndex_248 rfl (lv_at hl 0 rfl) ?_
                    refine kv_vs (rest := [.ref (a 2)]) X hP hS (c_Bus_readValue l D cB cI a bz ha S57 r56 (f_Reg_wideIndex S)) (kw_Bus_readValue hts q_391 ⟨Nat.le_of_ble_eq_true rfl, Nat.le_of_ble_eq_true rfl⟩) 1 rfl rfl rfl hl.1 rfl (lv_room (Nat.le_of_ble_eq_true rfl)) d_Prc_useIndex_249 (fun r59 S60 H locs e61 hP hS => ?_)
                    refine kv_s (rest := []) X hP hS (c_Reg_loadY l D cB cI a bz ha S60 r59) (kw_Reg_loadY hts q_433 ⟨Nat.le_of_ble_eq_true rfl, Nat.le_of_ble_eq_true rfl⟩) 2 rfl rfl rfl hl.1 rfl (lv_room (Nat.le_of_ble_eq_true rfl)) d_Prc_useIndex_252 (fun S62 H locs e63 hP hS => ?_)
                    refine lv_goto (tgt := 412) hx hb d_Prc_useIndex_255 rfl ?_
                    refine lv_iconst (v := (1 : Int32)) hx hb d_Prc_useIndex_412 (by decide) ?_
                    exact rt_z X hr hk hP hS (by decide) (by rw [f_Prc_useIndex, if_neg h1, if_neg h7, if_neg h13, if_neg h19, if_neg h25, if_neg h31, if_neg h37, if_neg h46, if_pos h55, bn_eq e58, bn_eq e61, bs_eq e63]) d_Prc_useIndex_413
                  ·
                    by_cases h64 : x1 = (174 : Int32)
                    ·
                      refine sw_l (k := (174 : Int32)) (tgt := 160) hx hb d_Prc_useIndex_9 h64 rfl ?_
                      refine lv_aload_n hx hb d_Prc_useIndex_160 rfl (lv_at hl 1 rfl) ?_
                      refine gt_Prc X hP 1 (by decide) (v := .ref (a 2)) q_195 rfl d_Prc_useIndex_161 ?_
                      refine lv_aload_n hx hb d_Prc_useIndex_164 rfl (lv_at hl 1 rfl) ?_
                      refine gt_Prc X hP 0 (by decide) (v := .ref (a 1)) q_194 rfl d_Prc_useIndex_165 ?_
                      refine lv_aload_n hx hb d_Prc_useIndex_168 rfl (lv_at hl 1 rfl) ?_
                      refine gt_Prc X hP 2 (by decide) (v := .ref (a 4)) q_196 rfl d_Prc_useIndex_169 ?_
                      refine lv_bipush (v := (13 : Int32)) hx hb d_Prc_useIndex_172 (by decide) ?_
                      refine kv_vs (rest := [.ref (a 1), .ref (a 2)]) X hP hS (c_Opd_place l D cB cI a bz ha S (13 : Int32)) (kw_Opd_place hts q_350 ⟨Nat.le_of_ble_eq_true rfl, Nat.le_of_ble_eq_true rfl⟩) 4 rfl rfl rfl hl.1 rfl (lv_room (Nat.le_of_ble_eq_true rfl)) d_Prc_useIndex_174 (fun r65 S66 H locs e67 hP hS => ?_)
                      refine lv_iload_n hx hb d_Prc_useIndex_177 rfl (lv_at hl 0 rfl) ?_
                      refine kv_vs (rest := [.ref (a 2)]) X hP hS (c_Bus_readValue l D cB cI a bz ha S66 r65 (f_Reg_wideIndex S)) (kw_Bus_readValue hts q_391 ⟨Nat.le_of_ble_eq_true rfl, Nat.le_of_ble_eq_true rfl⟩) 1 rfl rfl rfl hl.1 rfl (lv_room (Nat.le_of_ble_eq_true rfl)) d_Prc_useIndex_178 (fun r68 S69 H locs e70 hP hS => ?_)
                      refine kv_s (rest := []) X hP hS (c_Reg_loadX l D cB cI a bz ha S69 r68) (kw_Reg_loadX hts q_429 ⟨Nat.le_of_ble_eq_true rfl, Nat.le_of_ble_eq_true rfl⟩) 2 rfl rfl rfl hl.1 rfl (lv_room (Nat.le_of_ble_eq_true rfl)) d_Prc_useIndex_181 (fun S71 H locs e72 hP hS => ?_)
                      refine lv_goto (tgt := 412) hx hb d_Prc_useIndex_184 rfl ?_
                      refine lv_iconst (v := (1 : Int32)) hx hb d_Prc_useIndex_412 (by decide) ?_
                      exact rt_z X hr hk hP hS (by decide) (by rw [f_Prc_useIndex, if_neg h1, if_neg h7, if_neg h13, if_neg h19, if_neg h25, if_neg h31, if_neg h37, if_neg h46, if_neg h55, if_pos h64, bn_eq e67, bn_eq e70, bs_eq e72]) d_Prc_useIndex_413
                    ·
                      by_cases h73 : x1 = (192 : Int32)
                      ·
                        refine sw_l (k := (192 : Int32)) (tgt := 281) hx hb d_Prc_useIndex_9 h73 rfl ?_
                        refine lv_aload_n hx hb d_Prc_useIndex_281 rfl (lv_at hl 1 rfl) ?_
                        refine lv_aload_n hx hb d_Prc_useIndex_282 rfl (lv_at hl 1 rfl) ?_
                        refine gt_Prc X hP 1 (by decide) (v := .ref (a 2)) q_195 rfl d_Prc_useIndex_283 ?_
                        refine gt_Reg X hP 2 (by decide) (v := .int (S.1 2)) q_117 rfl d_Prc_useIndex_286 ?_
                        refine lv_aload_n hx hb d_Prc_useIndex_289 rfl (lv_at hl 1 rfl) ?_
                        refine gt_Prc X hP 2 (by decide) (v := .ref (a 4)) q_196 rfl d_Prc_useIndex_290 ?_
                        refine lv_iload_n hx hb d_Prc_useIndex_293 rfl (lv_at hl 0 rfl) ?_
                        refine kv_vs (rest := [.int (S.1 2), .ref (a 3)]) X hP hS (c_Opd_nextValue l D cB cI a bz ha S (f_Reg_wideIndex S)) (kw_Opd_nextValue hts q_387 ⟨Nat.le_of_ble_eq_true rfl, Nat.le_of_ble_eq_true rfl⟩) 4 rfl rfl rfl hl.1 rfl (lv_room (Nat.le_of_ble_eq_true rfl)) d_Prc_useIndex_294 (fun r74 S75 H locs e76 hP hS => ?_)
                        refine lv_iload_n hx hb d_Prc_useIndex_297 rfl (lv_at hl 0 rfl) ?_
                        refine kv_s (rest := []) X hP hS (c_Prc_compare l D cB cI a bz ha S75 (S.1 2) r74 (f_Reg_wideIndex S)) (kw_Prc_compare hts q_419 ⟨Nat.le_of_ble_eq_true rfl, Nat.le_of_ble_eq_true rfl⟩) 3 rfl rfl rfl hl.1 rfl (lv_room (Nat.le_of_ble_eq_true rfl)) d_Prc_useIndex_298 (fun S77 H locs e78 hP hS => ?_)
                        refine lv_goto (tgt := 412) hx hb d_Prc_useIndex_301 rfl ?_
                        refine lv_iconst (v := (1 : Int32)) hx hb d_Prc_useIndex_412 (by decide) ?_
                        exact rt_z X hr hk hP hS (by decide) (by rw [f_Prc_useIndex, if_neg h1, if_neg h7, if_neg h13, if_neg h19, if_neg h25, if_neg h31, if_neg h37, if_neg h46, if_neg h55, if_neg h64, if_pos h73, bn_eq e76, bs_eq e78]) d_Prc_useIndex_413
                      ·
                        by_cases h79 : x1 = (224 : Int32)
                        ·
                          refine sw_l (k := (224 : Int32)) (tgt := 258) hx hb d_Prc_useIndex_9 h79 rfl ?_
                          refine lv_aload_n hx hb d_Prc_useIndex_258 rfl (lv_at hl 1 rfl) ?_
                          refine lv_aload_n hx hb d_Prc_useIndex_259 rfl (lv_at hl 1 rfl) ?_
                          refine gt_Prc X hP 1 (by decide) (v := .ref (a 2)) q_195 rfl d_Prc_useIndex_260 ?_
                          refine gt_Reg X hP 1 (by decide) (v := .int (S.1 1)) q_113 rfl d_Prc_useIndex_263 ?_
                          refine lv_aload_n hx hb d_Prc_useIndex_266 rfl (lv_at hl 1 rfl) ?_
                          refine gt_Prc X hP 2 (by decide) (v := .ref (a 4)) q_196 rfl d_Prc_useIndex_267 ?_
                          refine lv_iload_n hx hb d_Prc_useIndex_270 rfl (lv_at hl 0 rfl) ?_
                          refine kv_vs (rest := [.int (S.1 1), .ref (a 3)]) X hP hS (c_Opd_nextValue l D cB cI a bz ha S (f_Reg_wideIndex S)) (kw_Opd_nextValue hts q_387 ⟨Nat.le_of_ble_eq_true rfl, Nat.le_of_ble_eq_true rfl⟩) 4 rfl rfl rfl hl.1 rfl (lv_room (Nat.le_of_ble_eq_true rfl)) d_Prc_useIndex_271 (fun r80 S81 H locs e82 hP hS => ?_)
                          refine lv_iload_n hx hb d_Prc_useIndex_274 rfl (lv_at hl 0 rfl) ?_
                          refine kv_s (rest := []) X hP hS (c_Prc_compare l D cB cI a bz ha S81 (S.1 1) r80 (f_Reg_wideIndex S)) (kw_Prc_compare hts q_419 ⟨Nat.le_of_ble_eq_true rfl, Nat.le_of_ble_eq_true rfl⟩) 3 rfl rfl rfl hl.1 rfl (lv_room (Nat.le_of_ble_eq_true rfl)) d_Prc_useIndex_275 (fun S83 H locs e84 hP hS => ?_)
                          refine lv_goto (tgt := 412) hx hb d_Prc_useIndex_278 rfl ?_
                          refine lv_iconst (v := (1 : Int32)) hx hb d_Prc_useIndex_412 (by decide) ?_
                          exact rt_z X hr hk hP hS (by decide) (by rw [f_Prc_useIndex, if_neg h1, if_neg h7, if_neg h13, if_neg h19, if_neg h25, if_neg h31, if_neg h37, if_neg h46, if_neg h55, if_neg h64, if_neg h73, if_pos h79, bn_eq e82, bs_eq e84]) d_Prc_useIndex_413
                        ·
                          refine sn_l (tgt := 410) hx hb d_Prc_useIndex_9 rfl ⟨lv_neT h1 rfl, lv_neT h7 rfl, lv_neT h13 rfl, lv_neT h19 rfl, lv_neT h25 rfl, lv_neT h31 rfl, lv_neT h37 rfl, lv_neT h46 rfl, lv_neT h55 rfl, lv_neT h64 rfl, lv_neT h73 rfl, lv_neT h79 rfl, trivial⟩ rfl ?_
                          refine lv_iconst (v := (0 : Int32)) hx hb d_Prc_useIndex_410 (by decide) ?_
                          exact rt_z X hr hk hP hS (by decide) (by rw [f_Prc_useIndex, if_neg h1, if_neg h7, if_neg h13, if_neg h19, if_neg h25, if_neg h31, if_neg h37, if_neg h46, if_neg h55, if_neg h64, if_neg h73, if_neg h79]) d_Prc_useIndex_411
set_option maxHeartbeats 4000000 in
set_option maxRecDepth 100000 in
theorem c_Prc_storeZero (l : Launch) (D : va_G) (cB cI : ClassId) (a : Nat → Nat) (bz : Nat) (ha : ap a 8) (S : Sc) (x1 : Int32) : MI l y_Prc_storeZero b_Prc_storeZero 2 (some .boolean) rm_Prc_storeZero [.ref (a 3), .int x1] D cB cI (wdC cB cI a) (ow a 8) bz S (f_Prc_storeZero S x1) := by
  refine met_in R_Prc (by decide) rfl (Nat.le_of_ble_eq_true rfl) (wdC_D ha cB cI) ?_
  intro p e s m below meth c ls X hr hk hl hP hS
  have hx := X.1.1
  have hb := X.1.2.1
  have hown := X.1.2.2.2.1
  have hts := X.1.2.2.2.2
  have hl : lv_has ls 2 [(0, .ref (a 3)), (1, .int x1)] := hl
  refine lv_iload_n hx hb d_Prc_storeZero_0 rfl (lv_at hl 1 rfl) ?_
  by_cases h1 : x1 = (100 : Int32)
  ·
    refine sw_l (k := (100 : Int32)) (tgt := 28) hx hb d_Prc_storeZero_1 h1 rfl ?_
    refine lv_aload_n hx hb d_Prc_storeZero_28 rfl (lv_at hl 0 rfl) ?_
    refine gt_Prc X hP 0 (by decide) (v := .ref (a 1)) q_194 rfl d_Prc_storeZero_29 ?_
    refine lv_aload_n hx hb d_Prc_storeZero_32 rfl (lv_at hl 0 rfl) ?_
    refine gt_Prc X hP 2 (by decide) (v := .ref (a 4)) q_196 rfl d_Prc_storeZero_33 ?_
    refine lv_iconst (v := (5 : Int32)) hx hb d_Prc_storeZero_36 (by decide) ?_
    refine kv_vs (rest := [.ref (a 1)]) X hP hS (c_Opd_place l D cB cI a bz ha S (5 : Int32)) (kw_Opd_place hts q_350 ⟨Nat.le_of_ble_eq_true rfl, Nat.le_of_ble_eq_true rfl⟩) 4 rfl rfl rfl hl.1 rfl (lv_room (Nat.le_of_ble_eq_true rfl)) d_Prc_storeZero_37 (fun r2 S3 H locs e4 hP hS => ?_)
    refine lv_iconst (v := (0 : Int32)) hx hb d_Prc_storeZero_40 (by decide) ?_
    refine lv_aload_n hx hb d_Prc_storeZero_41 rfl (lv_at hl 0 rfl) ?_
    refine gt_Prc X hP 1 (by decide) (v := .ref (a 2)) q_195 rfl d_Prc_storeZero_42 ?_
    refine kv_v (rest := [.int ((0 : Int32)), .int (r2), .ref (a 1)]) X hP hS (c_Reg_wideA l D cB cI a bz ha S3) (kw_Reg_wideA hts q_346 ⟨Nat.le_of_ble_eq_true rfl, Nat.le_of_ble_eq_true rfl⟩) 2 rfl rfl rfl hl.1 rfl (lv_room (Nat.le_of_ble_eq_true rfl)) d_Prc_storeZero_45 (fun H locs hP hS => ?_)
    refine kv_s (rest := []) X hP hS (c_Bus_writeValue l D cB cI a bz ha S3 r2 (0 : Int32) (f_Reg_wideA S3)) (kw_Bus_writeValue hts q_382 ⟨Nat.le_of_ble_eq_true rfl, Nat.le_of_ble_eq_true rfl⟩) 1 rfl rfl rfl hl.1 rfl (lv_room (Nat.le_of_ble_eq_true rfl)) d_Prc_storeZero_48 (fun S5 H locs e6 hP hS => ?_)
    refine lv_goto (tgt := 83) hx hb d_Prc_storeZero_51 rfl ?_
    refine lv_iconst (v := (1 : Int32)) hx hb d_Prc_storeZero_83 (by decide) ?_
    exact rt_z X hr hk hP hS (by decide) (by rw [f_Prc_storeZero, if_pos h1, bn_eq e4, bs_eq e6]) d_Prc_storeZero_84
  ·
    by_cases h7 : x1 = (156 : Int32)
    ·
      refine sw_l (k := (156 : Int32)) (tgt := 54) hx hb d_Prc_storeZero_1 h7 rfl ?_
      refine lv_aload_n hx hb d_Prc_storeZero_54 rfl (lv_at hl 0 rfl) ?_
      refine gt_Prc X hP 0 (by decide) (v := .ref (a 1)) q_194 rfl d_Prc_storeZero_55 ?_
      refine lv_aload_n hx hb d_Prc_storeZero_58 rfl (lv_at hl 0 rfl) ?_
      refine gt_Prc X hP 2 (by decide) (v := .ref (a 4)) q_196 rfl d_Prc_storeZero_59 ?_
      refine lv_bipush (v := (13 : Int32)) hx hb d_Prc_storeZero_62 (by decide) ?_
      refine kv_vs (rest := [.ref (a 1)]) X hP hS (c_Opd_place l D cB cI a bz ha S (13 : Int32)) (kw_Opd_place hts q_350 ⟨Nat.le_of_ble_eq_true rfl, Nat.le_of_ble_eq_true rfl⟩) 4 rfl rfl rfl hl.1 rfl (lv_room (Nat.le_of_ble_eq_true rfl)) d_Prc_storeZero_64 (fun r8 S9 H locs e10 hP hS => ?_)
      refine lv_iconst (v := (0 : Int32)) hx hb d_Prc_storeZero_67 (by decide) ?_
      refine lv_aload_n hx hb d_Prc_storeZero_68 rfl (lv_at hl 0 rfl) ?_
      refine gt_Prc X hP 1 (by decide) (v := .ref (a 2)) q_195 rfl d_Prc_storeZero_69 ?_
      refine kv_v (rest := [.int ((0 : Int32)), .int (r8), .ref (a 1)]) X hP hS (c_Reg_wideA l D cB cI a bz ha S9) (kw_Reg_wideA hts q_346 ⟨Nat.le_of_ble_eq_true rfl, Nat.le_of_ble_eq_true rfl⟩) 2 rfl rfl rfl hl.1 rfl (lv_room (Nat.le_of_ble_eq_true rfl)) d_Prc_storeZero_72 (fun H locs hP hS => ?_)
      refine kv_s (rest := []) X hP hS (c_Bus_writeValue l D cB cI a bz ha S9 r8 (0 : Int32) (f_Reg_wideA S9)) (kw_Bus_writeValue hts q_382 ⟨Nat.le_of_ble_eq_true rfl, Nat.le_of_ble_eq_true rfl⟩) 1 rfl rfl rfl hl.1 rfl (lv_room (Nat.le_of_ble_eq_true rfl)) d_Prc_storeZero_75 (fun S11 H locs e12 hP hS => ?_)
      refine lv_goto (tgt := 83) hx hb d_Prc_storeZero_78 rfl ?_
      refine lv_iconst (v := (1 : Int32)) hx hb d_Prc_storeZero_83 (by decide) ?_
      exact rt_z X hr hk hP hS (by decide) (by rw [f_Prc_storeZero, if_neg h1, if_pos h7, bn_eq e10, bs_eq e12]) d_Prc_storeZero_84
    ·
      refine sn_l (tgt := 81) hx hb d_Prc_storeZero_1 rfl ⟨lv_neT h1 rfl, lv_neT h7 rfl, trivial⟩ rfl ?_
      refine lv_iconst (v := (0 : Int32)) hx hb d_Prc_storeZero_81 (by decide) ?_
      exact rt_z X hr hk hP hS (by decide) (by rw [f_Prc_storeZero, if_neg h1, if_neg h7]) d_Prc_storeZero_82
set_option maxHeartbeats 4000000 in
set_option maxRecDepth 100000 in
theorem c_Prc_changed (l : Launch) (D : va_G) (cB cI : ClassId) (a : Nat → Nat) (bz : Nat) (ha : ap a 8) (S : Sc) (x1 x2 x3 : Int32) : MI l y_Prc_changed b_Prc_changed 7 (some .int) rm_Prc_changed [.ref (a 3), .int x1, .int x2, .int x3] D cB cI (wdC cB cI a) (ow a 8) bz S (f_Prc_changed S x1 x2 x3) := by
  refine met_in R_Prc (by decide) rfl (Nat.le_of_ble_eq_true rfl) (wdC_D ha cB cI) ?_
  intro p e s m below meth c ls X hr hk hl hP hS
  have hx := X.1.1
  have hb := X.1.2.1
  have hown := X.1.2.2.2.1
  have hts := X.1.2.2.2.2
  have hl : lv_has ls 7 [(0, .ref (a 3)), (1, .int x1), (2, .int x2), (3, .int x3)] := hl
  refine lv_iload_n hx hb d_Prc_changed_0 rfl (lv_at hl 3 rfl) ?_
  refine ks_v (rest := []) X hP hS (c_Reg_maskOf l D cB cI a bz ha S x3) (kw_Reg_maskOf hts q_418 ⟨Nat.le_of_ble_eq_true rfl, Nat.le_of_ble_eq_true rfl⟩) rfl hl.1 rfl (lv_room (Nat.le_of_ble_eq_true rfl)) d_Prc_changed_1 (fun H locs hP hS => ?_)
  refine lv_istore hx hb d_Prc_changed_4 hl (Nat.le_of_ble_eq_true rfl) rfl (fun ls hl => ?_)
  have hl : lv_has ls 7 [(4, .int ((f_Reg_maskOf x3))), (0, .ref (a 3)), (1, .int (x1)), (2, .int (x2)), (3, .int (x3))] := hl
  refine lv_iload_n hx hb d_Prc_changed_6 rfl (lv_at hl 4 rfl) ?_
  refine ks_v (rest := []) X hP hS (c_Reg_signOf l D cB cI a bz ha S x3) (kw_Reg_signOf hts q_417 ⟨Nat.le_of_ble_eq_true rfl, Nat.le_of_ble_eq_true rfl⟩) rfl hl.1 rfl (lv_room (Nat.le_of_ble_eq_true rfl)) d_Prc_changed_7 (fun H locs hP hS => ?_)
  refine lv_istore hx hb d_Prc_changed_10 hl (Nat.le_of_ble_eq_true rfl) rfl (fun ls hl => ?_)
  have hl : lv_has ls 7 [(5, .int ((f_Reg_signOf x3))), (4, .int ((f_Reg_maskOf x3))), (0, .ref (a 3)), (1, .int (x1)), (2, .int (x2)), (3, .int (x3))] := hl
  refine lv_aload_n hx hb d_Prc_changed_12 rfl (lv_at hl 2 rfl) ?_
  refine gt_Prc X hP 1 (by decide) (v := .ref (a 2)) q_195 rfl d_Prc_changed_13 ?_
  refine lv_iconst (v := (1 : Int32)) hx hb d_Prc_changed_16 (by decide) ?_
  refine kv_v (rest := []) X hP hS (c_Reg_has l D cB cI a bz ha S (1 : Int32)) (kw_Reg_has hts q_326 ⟨Nat.le_of_ble_eq_true rfl, Nat.le_of_ble_eq_true rfl⟩) 2 rfl rfl rfl hl.1 rfl (lv_room (Nat.le_of_ble_eq_true rfl)) d_Prc_changed_17 (fun H locs hP hS => ?_)
  refine lv_istore hx hb d_Prc_changed_20 hl (Nat.le_of_ble_eq_true rfl) rfl (fun ls hl => ?_)
  have hl : lv_has ls 7 [(6, .int ((f_Reg_has S (1 : Int32)))), (5, .int ((f_Reg_signOf x3))), (4, .int ((f_Reg_maskOf x3))), (0, .ref (a 3)), (1, .int (x1)), (2, .int (x2)), (3, .int (x3))] := hl
  refine lv_iload_n hx hb d_Prc_changed_22 rfl (lv_at hl 4 rfl) ?_
  by_cases h1 : x1 = (0 : Int32)
  ·
    refine sw_t (k := (0 : Int32)) (tgt := 52) hx hb d_Prc_changed_23 h1 rfl ?_
    refine lv_aload_n hx hb d_Prc_changed_52 rfl (lv_at hl 3 rfl) ?_
    refine gt_Prc X hP 1 (by decide) (v := .ref (a 2)) q_195 rfl d_Prc_changed_53 ?_
    refine lv_iconst (v := (1 : Int32)) hx hb d_Prc_changed_56 (by decide) ?_
    refine lv_iload_n hx hb d_Prc_changed_57 rfl (lv_at hl 5 rfl) ?_
    refine lv_iload hx hb d_Prc_changed_58 (lv_at hl 1 rfl) ?_
    refine lv_iand hx hb d_Prc_changed_60 ?_
    refine lv_if_eq (tgt := 68) hx hb d_Prc_changed_61 rfl (fun h2 => ?_) (fun h2 => ?_)
    ·
      refine lv_iconst (v := (0 : Int32)) hx hb d_Prc_changed_68 (by decide) ?_
      refine kv_s (rest := []) X hP hS (c_Reg_putFlag l D cB cI a bz ha S (1 : Int32) (0 : Int32)) (kw_Reg_putFlag hts q_305 ⟨Nat.le_of_ble_eq_true rfl, Nat.le_of_ble_eq_true rfl⟩) 2 rfl rfl rfl hl.1 rfl (lv_room (Nat.le_of_ble_eq_true rfl)) d_Prc_changed_69 (fun S3 H locs e4 hP hS => ?_)
      refine lv_goto (tgt := 97) hx hb d_Prc_changed_72 rfl ?_
      refine lv_iload_n hx hb d_Prc_changed_97 rfl (lv_at hl 4 rfl) ?_
      refine sw_t (k := (0 : Int32)) (tgt := 144) hx hb d_Prc_changed_98 h1 rfl ?_
      refine lv_iload_n hx hb d_Prc_changed_144 rfl (lv_at hl 5 rfl) ?_
      refine lv_iconst (v := (1 : Int32)) hx hb d_Prc_changed_145 (by decide) ?_
      refine lv_ishl hx hb d_Prc_changed_146 ?_
      refine lv_iload hx hb d_Prc_changed_147 (lv_at hl 2 rfl) ?_
      refine lv_iand hx hb d_Prc_changed_149 ?_
      refine lv_goto (tgt := 216) hx hb d_Prc_changed_150 rfl ?_
      exact rt_vs X hr hk hP hS (by rw [f_Prc_changed, if_pos h1, if_pos h2, bs_eq e4]) d_Prc_changed_216
    ·
      refine lv_iconst (v := (1 : Int32)) hx hb d_Prc_changed_64 (by decide) ?_
      refine lv_goto (tgt := 69) hx hb d_Prc_changed_65 rfl ?_
      refine kv_s (rest := []) X hP hS (c_Reg_putFlag l D cB cI a bz ha S (1 : Int32) (1 : Int32)) (kw_Reg_putFlag hts q_305 ⟨Nat.le_of_ble_eq_true rfl, Nat.le_of_ble_eq_true rfl⟩) 2 rfl rfl rfl hl.1 rfl (lv_room (Nat.le_of_ble_eq_true rfl)) d_Prc_changed_69 (fun S5 H locs e6 hP hS => ?_)
      refine lv_goto (tgt := 97) hx hb d_Prc_changed_72 rfl ?_
      refine lv_iload_n hx hb d_Prc_changed_97 rfl (lv_at hl 4 rfl) ?_
      refine sw_t (k := (0 : Int32)) (tgt := 144) hx hb d_Prc_changed_98 h1 rfl ?_
      refine lv_iload_n hx hb d_Prc_changed_144 rfl (lv_at hl 5 rfl) ?_
      refine lv_iconst (v := (1 : Int32)) hx hb d_Prc_changed_145 (by decide) ?_
      refine lv_ishl hx hb d_Prc_changed_146 ?_
      refine lv_iload hx hb d_Prc_changed_147 (lv_at hl 2 rfl) ?_
      refine lv_iand hx hb d_Prc_changed_149 ?_
      refine lv_goto (tgt := 216) hx hb d_Prc_changed_150 rfl ?_
      exact rt_vs X hr hk hP hS (by rw [f_Prc_changed, if_pos h1, if_neg h2, bs_eq e6]) d_Prc_changed_216
  ·
    by_cases h7 : x1 = (1 : Int32)
    ·
      refine sw_t (k := (1 : Int32)) (tgt := 52) hx hb d_Prc_changed_23 h7 rfl ?_
      refine lv_aload_n hx hb d_Prc_changed_52 rfl (lv_at hl 3 rfl) ?_
      refine gt_Prc X hP 1 (by decide) (v := .ref (a 2)) q_195 rfl d_Prc_changed_53 ?_
      refine lv_iconst (v := (1 : Int32)) hx hb d_Prc_changed_56 (by decide) ?_
      refine lv_iload_n hx hb d_Prc_changed_57 rfl (lv_at hl 5 rfl) ?_
      refine lv_iload hx hb d_Prc_changed_58 (lv_at hl 1 rfl) ?_
      refine lv_iand hx hb d_Prc_changed_60 ?_
      refine lv_if_eq (tgt := 68) hx hb d_Prc_changed_61 rfl (fun h8 => ?_) (fun h8 => ?_)
      ·
        refine lv_iconst (v := (0 : Int32)) hx hb d_Prc_changed_68 (by decide) ?_
        refine kv_s (rest := []) X hP hS (c_Reg_putFlag l D cB cI a bz ha S (1 : Int32) (0 : Int32)) (kw_Reg_putFlag hts q_305 ⟨Nat.le_of_ble_eq_true rfl, Nat.le_of_ble_eq_true rfl⟩) 2 rfl rfl rfl hl.1 rfl (lv_room (Nat.le_of_ble_eq_true rfl)) d_Prc_changed_69 (fun S9 H locs e10 hP hS => ?_)
        refine lv_goto (tgt := 97) hx hb d_Prc_changed_72 rfl ?_
        refine lv_iload_n hx hb d_Prc_changed_97 rfl (lv_at hl 4 rfl) ?_
        refine sw_t (k := (1 : Int32)) (tgt := 153) hx hb d_Prc_changed_98 h7 rfl ?_
        refine lv_iload_n hx hb d_Prc_changed_153 rfl (lv_at hl 5 rfl) ?_
        refine lv_iconst (v := (1 : Int32)) hx hb d_Prc_changed_154 (by decide) ?_
        refine lv_ishl hx hb d_Prc_changed_155 ?_
        refine lv_iload hx hb d_Prc_changed_156 (lv_at hl 2 rfl) ?_
        refine lv_iand hx hb d_Prc_changed_158 ?_
        refine lv_iload hx hb d_Prc_changed_159 (lv_at hl 0 rfl) ?_
        refine lv_if_eq (tgt := 168) hx hb d_Prc_changed_161 rfl (fun h11 => ?_) (fun h11 => ?_)
        ·
          refine lv_iconst (v := (0 : Int32)) hx hb d_Prc_changed_168 (by decide) ?_
          refine lv_ior hx hb d_Prc_changed_169 ?_
          refine lv_goto (tgt := 216) hx hb d_Prc_changed_170 rfl ?_
          exact rt_vs X hr hk hP hS (by rw [f_Prc_changed, if_neg h1, if_pos h7, if_pos h8, bs_eq e10, if_pos h11]) d_Prc_changed_216
        ·
          refine lv_iconst (v := (1 : Int32)) hx hb d_Prc_changed_164 (by decide) ?_
          refine lv_goto (tgt := 169) hx hb d_Prc_changed_165 rfl ?_
          refine lv_ior hx hb d_Prc_changed_169 ?_
          refine lv_goto (tgt := 216) hx hb d_Prc_changed_170 rfl ?_
          exact rt_vs X hr hk hP hS (by rw [f_Prc_changed, if_neg h1, if_pos h7, if_pos h8, bs_eq e10, if_neg h11]) d_Prc_changed_216
      ·
        refine lv_iconst (v := (1 : Int32)) hx hb d_Prc_changed_64 (by decide) ?_
        refine lv_goto (tgt := 69) hx hb d_Prc_changed_65 rfl ?_
        refine kv_s (rest := []) X hP hS (c_Reg_putFlag l D cB cI a bz ha S (1 : Int32) (1 : Int32)) (kw_Reg_putFlag hts q_305 ⟨Nat.le_of_ble_eq_true rfl, Nat.le_of_ble_eq_true rfl⟩) 2 rfl rfl rfl hl.1 rfl (lv_room (Nat.le_of_ble_eq_true rfl)) d_Prc_changed_69 (fun S12 H locs e13 hP hS => ?_)
        refine lv_goto (tgt := 97) hx hb d_Prc_changed_72 rfl ?_
        refine lv_iload_n hx hb d_Prc_changed_97 rfl (lv_at hl 4 rfl) ?_
        refine sw_t (k := (1 : Int32)) (tgt := 153) hx hb d_Prc_changed_98 h7 rfl ?_
        refine lv_iload_n hx hb d_Prc_changed_153 rfl (lv_at hl 5 rfl) ?_
        refine lv_iconst (v := (1 : Int32)) hx hb d_Prc_changed_154 (by decide) ?_
        refine lv_ishl hx hb d_Prc_changed_155 ?_
        refine lv_iload hx hb d_Prc_changed_156 (lv_at hl 2 rfl) ?_
        refine lv_iand hx hb d_Prc_changed_158 ?_
        refine lv_iload hx hb d_Prc_changed_159 (lv_at hl 0 rfl) ?_
        refine lv_if_eq (tgt := 168) hx hb d_Prc_changed_161 rfl (fun h14 => ?_) (fun h14 => ?_)
        ·
          refine lv_iconst (v := (0 : Int32)) hx hb d_Prc_changed_168 (by decide) ?_
          refine lv_ior hx hb d_Prc_changed_169 ?_
          refine lv_goto (tgt := 216) hx hb d_Prc_changed_170 rfl ?_
          exact rt_vs X hr hk hP hS (by rw [f_Prc_changed, if_neg h1, if_pos h7, if_neg h8, bs_eq e13, if_pos h14]) d_Prc_changed_216
        ·
          refine lv_iconst (v := (1 : Int32)) hx hb d_Prc_changed_164 (by decide) ?_
          refine lv_goto (tgt := 169) hx hb d_Prc_changed_165 rfl ?_
          refine lv_ior hx hb d_Prc_changed_169 ?_
          refine lv_goto (tgt := 216) hx hb d_Prc_changed_170 rfl ?_
          exact rt_vs X hr hk hP hS (by rw [f_Prc_changed, if_neg h1, if_pos h7, if_neg h8, bs_eq e13, if_neg h14]) d_Prc_changed_216
    ·
      by_cases h15 : x1 = (2 : Int32)
      ·
        refine sw_t (k := (2 : Int32)) (tgt := 75) hx hb d_Prc_changed_23 h15 rfl ?_
        refine lv_aload_n hx hb d_Prc_changed_75 rfl (lv_at hl 3 rfl) ?_
        refine gt_Prc X hP 1 (by decide) (v := .ref (a 2)) q_195 rfl d_Prc_changed_76 ?_
        refine lv_iconst (v := (1 : Int32)) hx hb d_Prc_changed_79 (by decide) ?_
        refine lv_iload_n hx hb d_Prc_changed_80 rfl (lv_at hl 5 rfl) ?_
        refine lv_iconst (v := (1 : Int32)) hx hb d_Prc_changed_81 (by decide) ?_
        refine lv_iand hx hb d_Prc_changed_82 ?_
        refine lv_if_eq (tgt := 90) hx hb d_Prc_changed_83 rfl (fun h16 => ?_) (fun h16 => ?_)
        ·
          refine lv_iconst (v := (0 : Int32)) hx hb d_Prc_changed_90 (by decide) ?_
          refine kv_s (rest := []) X hP hS (c_Reg_putFlag l D cB cI a bz ha S (1 : Int32) (0 : Int32)) (kw_Reg_putFlag hts q_305 ⟨Nat.le_of_ble_eq_true rfl, Nat.le_of_ble_eq_true rfl⟩) 2 rfl rfl rfl hl.1 rfl (lv_room (Nat.le_of_ble_eq_true rfl)) d_Prc_changed_91 (fun S17 H locs e18 hP hS => ?_)
          refine lv_goto (tgt := 97) hx hb d_Prc_changed_94 rfl ?_
          refine lv_iload_n hx hb d_Prc_changed_97 rfl (lv_at hl 4 rfl) ?_
          refine sw_t (k := (2 : Int32)) (tgt := 173) hx hb d_Prc_changed_98 h15 rfl ?_
          refine lv_iload_n hx hb d_Prc_changed_173 rfl (lv_at hl 5 rfl) ?_
          refine lv_iconst (v := (1 : Int32)) hx hb d_Prc_changed_174 (by decide) ?_
          refine lv_ishr hx hb d_Prc_changed_175 ?_
          refine lv_goto (tgt := 216) hx hb d_Prc_changed_176 rfl ?_
          exact rt_vs X hr hk hP hS (by rw [f_Prc_changed, if_neg h1, if_neg h7, if_pos h15, if_pos h16, bs_eq e18]) d_Prc_changed_216
        ·
          refine lv_iconst (v := (1 : Int32)) hx hb d_Prc_changed_86 (by decide) ?_
          refine lv_goto (tgt := 91) hx hb d_Prc_changed_87 rfl ?_
          refine kv_s (rest := []) X hP hS (c_Reg_putFlag l D cB cI a bz ha S (1 : Int32) (1 : Int32)) (kw_Reg_putFlag hts q_305 ⟨Nat.le_of_ble_eq_true rfl, Nat.le_of_ble_eq_true rfl⟩) 2 rfl rfl rfl hl.1 rfl (lv_room (Nat.le_of_ble_eq_true rfl)) d_Prc_changed_91 (fun S19 H locs e20 hP hS => ?_)
          refine lv_goto (tgt := 97) hx hb d_Prc_changed_94 rfl ?_
          refine lv_iload_n hx hb d_Prc_changed_97 rfl (lv_at hl 4 rfl) ?_
          refine sw_t (k := (2 : Int32)) (tgt := 173) hx hb d_Prc_changed_98 h15 rfl ?_
          refine lv_iload_n hx hb d_Prc_changed_173 rfl (lv_at hl 5 rfl) ?_
          refine lv_iconst (v := (1 : Int32)) hx hb d_Prc_changed_174 (by decide) ?_
          refine lv_ishr hx hb d_Prc_changed_175 ?_
          refine lv_goto (tgt := 216) hx hb d_Prc_changed_176 rfl ?_
          exact rt_vs X hr hk hP hS (by rw [f_Prc_changed, if_neg h1, if_neg h7, if_pos h15, if_neg h16, bs_eq e20]) d_Prc_changed_216
      ·
        by_cases h21 : x1 = (3 : Int32)
        ·
          refine sw_t (k := (3 : Int32)) (tgt := 75) hx hb d_Prc_changed_23 h21 rfl ?_
          refine lv_aload_n hx hb d_Prc_changed_75 rfl (lv_at hl 3 rfl) ?_
          refine gt_Prc X hP 1 (by decide) (v := .ref (a 2)) q_195 rfl d_Prc_changed_76 ?_
          refine lv_iconst (v := (1 : Int32)) hx hb d_Prc_changed_79 (by decide) ?_
          refine lv_iload_n hx hb d_Prc_changed_80 rfl (lv_at hl 5 rfl) ?_
          refine lv_iconst (v := (1 : Int32)) hx hb d_Prc_changed_81 (by decide) ?_
          refine lv_iand hx hb d_Prc_changed_82 ?_
          refine lv_if_eq (tgt := 90) hx hb d_Prc_changed_83 rfl (fun h22 => ?_) (fun h22 => ?_)
          ·
            refine lv_iconst (v := (0 : Int32)) hx hb d_Prc_changed_90 (by decide) ?_
            refine kv_s (rest := []) X hP hS (c_Reg_putFlag l D cB cI a bz ha S (1 : Int32) (0 : Int32)) (kw_Reg_putFlag hts q_305 ⟨Nat.le_of_ble_eq_true rfl, Nat.le_of_ble_eq_true rfl⟩) 2 rfl rfl rfl hl.1 rfl (lv_room (Nat.le_of_ble_eq_true rfl)) d_Prc_changed_91 (fun S23 H locs e24 hP hS => ?_)
            refine lv_goto (tgt := 97) hx hb d_Prc_changed_94 rfl ?_
            refine lv_iload_n hx hb d_Prc_changed_97 rfl (lv_at hl 4 rfl) ?_
            refine sw_t (k := (3 : Int32)) (tgt := 179) hx hb d_Prc_changed_98 h21 rfl ?_
            refine lv_iload_n hx hb d_Prc_changed_179 rfl (lv_at hl 5 rfl) ?_
            refine lv_iconst (v := (1 : Int32)) hx hb d_Prc_changed_180 (by decide) ?_
            refine lv_ishr hx hb d_Prc_changed_181 ?_
            refine lv_iload hx hb d_Prc_changed_182 (lv_at hl 0 rfl) ?_
            refine lv_if_eq (tgt := 192) hx hb d_Prc_changed_184 rfl (fun h25 => ?_) (fun h25 => ?_)
            ·
              refine lv_iconst (v := (0 : Int32)) hx hb d_Prc_changed_192 (by decide) ?_
              refine lv_ior hx hb d_Prc_changed_193 ?_
              refine lv_goto (tgt := 216) hx hb d_Prc_changed_194 rfl ?_
              exact rt_vs X hr hk hP hS (by rw [f_Prc_changed, if_neg h1, if_neg h7, if_neg h15, if_pos h21, if_pos h22, bs_eq e24, if_pos h25]) d_Prc_changed_216
            ·
              refine lv_iload hx hb d_Prc_changed_187 (lv_at hl 1 rfl) ?_
              refine lv_goto (tgt := 193) hx hb d_Prc_changed_189 rfl ?_
              refine lv_ior hx hb d_Prc_changed_193 ?_
              refine lv_goto (tgt := 216) hx hb d_Prc_changed_194 rfl ?_
              exact rt_vs X hr hk hP hS (by rw [f_Prc_changed, if_neg h1, if_neg h7, if_neg h15, if_pos h21, if_pos h22, bs_eq e24, if_neg h25]) d_Prc_changed_216
          ·
            refine lv_iconst (v := (1 : Int32)) hx hb d_Prc_changed_86 (by decide) ?_
            refine lv_goto (tgt := 91) hx hb d_Prc_changed_87 rfl ?_
            refine kv_s (rest := []) X hP hS (c_Reg_putFlag l D cB cI a bz ha S (1 : Int32) (1 : Int32)) (kw_Reg_putFlag hts q_305 ⟨Nat.le_of_ble_eq_true rfl, Nat.le_of_ble_eq_true rfl⟩) 2 rfl rfl rfl hl.1 rfl (lv_room (Nat.le_of_ble_eq_true rfl)) d_Prc_changed_91 (fun S26 H locs e27 hP hS => ?_)
            refine lv_goto (tgt := 97) hx hb d_Prc_changed_94 rfl ?_
            refine lv_iload_n hx hb d_Prc_changed_97 rfl (lv_at hl 4 rfl) ?_
            refine sw_t (k := (3 : Int32)) (tgt := 179) hx hb d_Prc_changed_98 h21 rfl ?_
            refine lv_iload_n hx hb d_Prc_changed_179 rfl (lv_at hl 5 rfl) ?_
            refine lv_iconst (v := (1 : Int32)) hx hb d_Prc_changed_180 (by decide) ?_
            refine lv_ishr hx hb d_Prc_changed_181 ?_
            refine lv_iload hx hb d_Prc_changed_182 (lv_at hl 0 rfl) ?_
            refine lv_if_eq (tgt := 192) hx hb d_Prc_changed_184 rfl (fun h28 => ?_) (fun h28 => ?_)
            ·
              refine lv_iconst (v := (0 : Int32)) hx hb d_Prc_changed_192 (by decide) ?_
              refine lv_ior hx hb d_Prc_changed_193 ?_
              refine lv_goto (tgt := 216) hx hb d_Prc_changed_194 rfl ?_
              exact rt_vs X hr hk hP hS (by rw [f_Prc_changed, if_neg h1, if_neg h7, if_neg h15, if_pos h21, if_neg h22, bs_eq e27, if_pos h28]) d_Prc_changed_216
            ·
              refine lv_iload hx hb d_Prc_changed_187 (lv_at hl 1 rfl) ?_
              refine lv_goto (tgt := 193) hx hb d_Prc_changed_189 rfl ?_
              refine lv_ior hx hb d_Prc_changed_193 ?_
              refine lv_goto (tgt := 216) hx hb d_Prc_changed_194 rfl ?_
              exact rt_vs X hr hk hP hS (by rw [f_Prc_changed, if_neg h1, if_neg h7, if_neg h15, if_pos h21, if_neg h22, bs_eq e27, if_neg h28]) d_Prc_changed_216
        ·
          refine sn_t (tgt := 97) hx hb d_Prc_changed_23 (by have g0 := lv_neT (a := 0) h1 rfl; have g1 := lv_neT (a := 1) h7 rfl; have g2 := lv_neT (a := 2) h15 rfl; have g3 := lv_neT (a := 3) h21 rfl; omega) rfl ?_
          refine lv_iload_n hx hb d_Prc_changed_97 rfl (lv_at hl 4 rfl) ?_
          by_cases h29 : x1 = (4 : Int32)
          ·
            refine sw_t (k := (4 : Int32)) (tgt := 215) hx hb d_Prc_changed_98 h29 rfl ?_
            refine lv_iload_n hx hb d_Prc_changed_215 rfl (lv_at hl 5 rfl) ?_
            exact rt_vs X hr hk hP hS (by rw [f_Prc_changed, if_neg h1, if_neg h7, if_neg h15, if_neg h21, if_pos h29]) d_Prc_changed_216
          ·
            by_cases h30 : x1 = (5 : Int32)
            ·
              refine sw_t (k := (5 : Int32)) (tgt := 215) hx hb d_Prc_changed_98 h30 rfl ?_
              refine lv_iload_n hx hb d_Prc_changed_215 rfl (lv_at hl 5 rfl) ?_
              exact rt_vs X hr hk hP hS (by rw [f_Prc_changed, if_neg h1, if_neg h7, if_neg h15, if_neg h21, if_neg h29, if_pos h30]) d_Prc_changed_216
            ·
              by_cases h31 : x1 = (6 : Int32)
              ·
                refine sw_t (k := (6 : Int32)) (tgt := 206) hx hb d_Prc_changed_98 h31 rfl ?_
                refine lv_iload_n hx hb d_Prc_changed_206 rfl (lv_at hl 5 rfl) ?_
                refine lv_iconst (v := (1 : Int32)) hx hb d_Prc_changed_207 (by decide) ?_
                refine lv_isub hx hb d_Prc_changed_208 ?_
                refine lv_iload hx hb d_Prc_changed_209 (lv_at hl 2 rfl) ?_
                refine lv_iand hx hb d_Prc_changed_211 ?_
                refine lv_goto (tgt := 216) hx hb d_Prc_changed_212 rfl ?_
                exact rt_vs X hr hk hP hS (by rw [f_Prc_changed, if_neg h1, if_neg h7, if_neg h15, if_neg h21, if_neg h29, if_neg h30, if_pos h31]) d_Prc_changed_216
              ·
                by_cases h32 : x1 = (7 : Int32)
                ·
                  refine sw_t (k := (7 : Int32)) (tgt := 197) hx hb d_Prc_changed_98 h32 rfl ?_
                  refine lv_iload_n hx hb d_Prc_changed_197 rfl (lv_at hl 5 rfl) ?_
                  refine lv_iconst (v := (1 : Int32)) hx hb d_Prc_changed_198 (by decide) ?_
                  refine lv_iadd hx hb d_Prc_changed_199 ?_
                  refine lv_iload hx hb d_Prc_changed_200 (lv_at hl 2 rfl) ?_
                  refine lv_iand hx hb d_Prc_changed_202 ?_
                  refine lv_goto (tgt := 216) hx hb d_Prc_changed_203 rfl ?_
                  exact rt_vs X hr hk hP hS (by rw [f_Prc_changed, if_neg h1, if_neg h7, if_neg h15, if_neg h21, if_neg h29, if_neg h30, if_neg h31, if_pos h32]) d_Prc_changed_216
                ·
                  refine sn_t (tgt := 215) hx hb d_Prc_changed_98 (by have g0 := lv_neT (a := 0) h1 rfl; have g1 := lv_neT (a := 1) h7 rfl; have g2 := lv_neT (a := 2) h15 rfl; have g3 := lv_neT (a := 3) h21 rfl; have g4 := lv_neT (a := 4) h29 rfl; have g5 := lv_neT (a := 5) h30 rfl; have g6 := lv_neT (a := 6) h31 rfl; have g7 := lv_neT (a := 7) h32 rfl; omega) rfl ?_
                  refine lv_iload_n hx hb d_Prc_changed_215 rfl (lv_at hl 5 rfl) ?_
                  exact rt_vs X hr hk hP hS (by rw [f_Prc_changed, if_neg h1, if_neg h7, if_neg h15, if_neg h21, if_neg h29, if_neg h30, if_neg h31, if_neg h32]) d_Prc_changed_216
set_option maxHeartbeats 4000000 in
set_option maxRecDepth 100000 in
theorem c_Prc_changeMemory (l : Launch) (D : va_G) (cB cI : ClassId) (a : Nat → Nat) (bz : Nat) (ha : ap a 8) (S : Sc) (x1 : Int32) : MI l y_Prc_changeMemory b_Prc_changeMemory 6 (some .boolean) rm_Prc_changeMemory [.ref (a 3), .int x1] D cB cI (wdC cB cI a) (ow a 8) bz S (f_Prc_changeMemory S x1) := by
  refine met_in R_Prc (by decide) rfl (Nat.le_of_ble_eq_true rfl) (wdC_D ha cB cI) ?_
  intro p e s m below meth c ls X hr hk hl hP hS
  have hx := X.1.1
  have hb := X.1.2.1
  have hown := X.1.2.2.2.1
  have hts := X.1.2.2.2.2
  have hl : lv_has ls 6 [(0, .ref (a 3)), (1, .int x1)] := hl
  refine lv_iload_n hx hb d_Prc_changeMemory_0 rfl (lv_at hl 1 rfl) ?_
  by_cases h1 : x1 = (6 : Int32)
  ·
    refine sw_l (k := (6 : Int32)) (tgt := 76) hx hb d_Prc_changeMemory_1 h1 rfl ?_
    refine lv_iconst (v := (5 : Int32)) hx hb d_Prc_changeMemory_76 (by decide) ?_
    refine lv_istore_n hx hb d_Prc_changeMemory_77 rfl hl (Nat.le_of_ble_eq_true rfl) rfl (fun ls hl => ?_)
    have hl : lv_has ls 6 [(2, .int ((5 : Int32))), (0, .ref (a 3)), (1, .int (x1))] := hl
    refine lv_goto (tgt := 89) hx hb d_Prc_changeMemory_78 rfl ?_
    refine lv_aload_n hx hb d_Prc_changeMemory_89 rfl (lv_at hl 1 rfl) ?_
    refine gt_Prc X hP 1 (by decide) (v := .ref (a 2)) q_195 rfl d_Prc_changeMemory_90 ?_
    refine kv_v (rest := []) X hP hS (c_Reg_wideA l D cB cI a bz ha S) (kw_Reg_wideA hts q_346 ⟨Nat.le_of_ble_eq_true rfl, Nat.le_of_ble_eq_true rfl⟩) 2 rfl rfl rfl hl.1 rfl (lv_room (Nat.le_of_ble_eq_true rfl)) d_Prc_changeMemory_93 (fun H locs hP hS => ?_)
    refine lv_istore_n hx hb d_Prc_changeMemory_96 rfl hl (Nat.le_of_ble_eq_true rfl) rfl (fun ls hl => ?_)
    have hl : lv_has ls 6 [(3, .int ((f_Reg_wideA S))), (2, .int ((5 : Int32))), (0, .ref (a 3)), (1, .int (x1))] := hl
    refine lv_aload_n hx hb d_Prc_changeMemory_97 rfl (lv_at hl 2 rfl) ?_
    refine gt_Prc X hP 2 (by decide) (v := .ref (a 4)) q_196 rfl d_Prc_changeMemory_98 ?_
    refine lv_iload_n hx hb d_Prc_changeMemory_101 rfl (lv_at hl 1 rfl) ?_
    refine kv_vs (rest := []) X hP hS (c_Opd_place l D cB cI a bz ha S (5 : Int32)) (kw_Opd_place hts q_350 ⟨Nat.le_of_ble_eq_true rfl, Nat.le_of_ble_eq_true rfl⟩) 4 rfl rfl rfl hl.1 rfl (lv_room (Nat.le_of_ble_eq_true rfl)) d_Prc_changeMemory_102 (fun r2 S3 H locs e4 hP hS => ?_)
    refine lv_istore hx hb d_Prc_changeMemory_105 hl (Nat.le_of_ble_eq_true rfl) rfl (fun ls hl => ?_)
    have hl : lv_has ls 6 [(4, .int (r2)), (3, .int ((f_Reg_wideA S))), (2, .int ((5 : Int32))), (0, .ref (a 3)), (1, .int (x1))] := hl
    refine lv_aload_n hx hb d_Prc_changeMemory_107 rfl (lv_at hl 3 rfl) ?_
    refine lv_iload_n hx hb d_Prc_changeMemory_108 rfl (lv_at hl 4 rfl) ?_
    refine lv_iconst (v := (5 : Int32)) hx hb d_Prc_changeMemory_109 (by decide) ?_
    refine lv_ishr hx hb d_Prc_changeMemory_110 ?_
    refine lv_aload_n hx hb d_Prc_changeMemory_111 rfl (lv_at hl 3 rfl) ?_
    refine gt_Prc X hP 0 (by decide) (v := .ref (a 1)) q_194 rfl d_Prc_changeMemory_112 ?_
    refine lv_iload hx hb d_Prc_changeMemory_115 (lv_at hl 0 rfl) ?_
    refine lv_iload_n hx hb d_Prc_changeMemory_117 rfl (lv_at hl 1 rfl) ?_
    refine kv_vs (rest := [.int ((x1 >>> ((5 : Int32) &&& 31))), .ref (a 3)]) X hP hS (c_Bus_readValue l D cB cI a bz ha S3 r2 (f_Reg_wideA S)) (kw_Bus_readValue hts q_391 ⟨Nat.le_of_ble_eq_true rfl, Nat.le_of_ble_eq_true rfl⟩) 1 rfl rfl rfl hl.1 rfl (lv_room (Nat.le_of_ble_eq_true rfl)) d_Prc_changeMemory_118 (fun r5 S6 H locs e7 hP hS => ?_)
    refine lv_iload_n hx hb d_Prc_changeMemory_121 rfl (lv_at hl 1 rfl) ?_
    refine kv_vs (rest := []) X hP hS (c_Prc_changed l D cB cI a bz ha S6 (x1 >>> ((5 : Int32) &&& 31)) r5 (f_Reg_wideA S)) (kw_Prc_changed hts q_445 ⟨Nat.le_of_ble_eq_true rfl, Nat.le_of_ble_eq_true rfl⟩) 3 rfl rfl rfl hl.1 rfl (lv_room (Nat.le_of_ble_eq_true rfl)) d_Prc_changeMemory_122 (fun r8 S9 H locs e10 hP hS => ?_)
    refine lv_istore hx hb d_Prc_changeMemory_125 hl (Nat.le_of_ble_eq_true rfl) rfl (fun ls hl => ?_)
    have hl : lv_has ls 6 [(5, .int (r8)), (4, .int (r2)), (3, .int ((f_Reg_wideA S))), (2, .int ((5 : Int32))), (0, .ref (a 3)), (1, .int (x1))] := hl
    refine lv_aload_n hx hb d_Prc_changeMemory_127 rfl (lv_at hl 4 rfl) ?_
    refine gt_Prc X hP 1 (by decide) (v := .ref (a 2)) q_195 rfl d_Prc_changeMemory_128 ?_
    refine lv_iload hx hb d_Prc_changeMemory_131 (lv_at hl 0 rfl) ?_
    refine lv_iload_n hx hb d_Prc_changeMemory_133 rfl (lv_at hl 2 rfl) ?_
    refine kv_s (rest := []) X hP hS (c_Reg_showResult l D cB cI a bz ha S9 r8 (f_Reg_wideA S)) (kw_Reg_showResult hts q_423 ⟨Nat.le_of_ble_eq_true rfl, Nat.le_of_ble_eq_true rfl⟩) 2 rfl rfl rfl hl.1 rfl (lv_room (Nat.le_of_ble_eq_true rfl)) d_Prc_changeMemory_134 (fun S11 H locs e12 hP hS => ?_)
    refine lv_aload_n hx hb d_Prc_changeMemory_137 rfl (lv_at hl 4 rfl) ?_
    refine gt_Prc X hP 0 (by decide) (v := .ref (a 1)) q_194 rfl d_Prc_changeMemory_138 ?_
    refine lv_iload hx hb d_Prc_changeMemory_141 (lv_at hl 1 rfl) ?_
    refine lv_iload hx hb d_Prc_changeMemory_143 (lv_at hl 0 rfl) ?_
    refine lv_iload_n hx hb d_Prc_changeMemory_145 rfl (lv_at hl 2 rfl) ?_
    refine kv_s (rest := []) X hP hS (c_Bus_writeValue l D cB cI a bz ha S11 r2 r8 (f_Reg_wideA S)) (kw_Bus_writeValue hts q_382 ⟨Nat.le_of_ble_eq_true rfl, Nat.le_of_ble_eq_true rfl⟩) 1 rfl rfl rfl hl.1 rfl (lv_room (Nat.le_of_ble_eq_true rfl)) d_Prc_changeMemory_146 (fun S13 H locs e14 hP hS => ?_)
    refine lv_iconst (v := (1 : Int32)) hx hb d_Prc_changeMemory_149 (by decide) ?_
    exact rt_z X hr hk hP hS (by decide) (by rw [f_Prc_changeMemory, if_pos h1, bn_eq e4, bn_eq e7, bn_eq e10, bs_eq e12, bs_eq e14]) d_Prc_changeMemory_150
  ·
    by_cases h15 : x1 = (38 : Int32)
    ·
      refine sw_l (k := (38 : Int32)) (tgt := 76) hx hb d_Prc_changeMemory_1 h15 rfl ?_
      refine lv_iconst (v := (5 : Int32)) hx hb d_Prc_changeMemory_76 (by decide) ?_
      refine lv_istore_n hx hb d_Prc_changeMemory_77 rfl hl (Nat.le_of_ble_eq_true rfl) rfl (fun ls hl => ?_)
      have hl : lv_has ls 6 [(2, .int ((5 : Int32))), (0, .ref (a 3)), (1, .int (x1))] := hl
      refine lv_goto (tgt := 89) hx hb d_Prc_changeMemory_78 rfl ?_
      refine lv_aload_n hx hb d_Prc_changeMemory_89 rfl (lv_at hl 1 rfl) ?_
      refine gt_Prc X hP 1 (by decide) (v := .ref (a 2)) q_195 rfl d_Prc_changeMemory_90 ?_
      refine kv_v (rest := []) X hP hS (c_Reg_wideA l D cB cI a bz ha S) (kw_Reg_wideA hts q_346 ⟨Nat.le_of_ble_eq_true rfl, Nat.le_of_ble_eq_true rfl⟩) 2 rfl rfl rfl hl.1 rfl (lv_room (Nat.le_of_ble_eq_true rfl)) d_Prc_changeMemory_93 (fun H locs hP hS => ?_)
      refine lv_istore_n hx hb d_Prc_changeMemory_96 rfl hl (Nat.le_of_ble_eq_true rfl) rfl (fun ls hl => ?_)
      have hl : lv_has ls 6 [(3, .int ((f_Reg_wideA S))), (2, .int ((5 : Int32))), (0, .ref (a 3)), (1, .int (x1))] := hl
      refine lv_aload_n hx hb d_Prc_changeMemory_97 rfl (lv_at hl 2 rfl) ?_
      refine gt_Prc X hP 2 (by decide) (v := .ref (a 4)) q_196 rfl d_Prc_changeMemory_98 ?_
      refine lv_iload_n hx hb d_Prc_changeMemory_101 rfl (lv_at hl 1 rfl) ?_
      refine kv_vs (rest := []) X hP hS (c_Opd_place l D cB cI a bz ha S (5 : Int32)) (kw_Opd_place hts q_350 ⟨Nat.le_of_ble_eq_true rfl, Nat.le_of_ble_eq_true rfl⟩) 4 rfl rfl rfl hl.1 rfl (lv_room (Nat.le_of_ble_eq_true rfl)) d_Prc_changeMemory_102 (fun r16 S17 H locs e18 hP hS => ?_)
      refine lv_istore hx hb d_Prc_changeMemory_105 hl (Nat.le_of_ble_eq_true rfl) rfl (fun ls hl => ?_)
      have hl : lv_has ls 6 [(4, .int (r16)), (3, .int ((f_Reg_wideA S))), (2, .int ((5 : Int32))), (0, .ref (a 3)), (1, .int (x1))] := hl
      refine lv_aload_n hx hb d_Prc_changeMemory_107 rfl (lv_at hl 3 rfl) ?_
      refine lv_iload_n hx hb d_Prc_changeMemory_108 rfl (lv_at hl 4 rfl) ?_
      refine lv_iconst (v := (5 : Int32)) hx hb d_Prc_changeMemory_109 (by decide) ?_
      refine lv_ishr hx hb d_Prc_changeMemory_110 ?_
      refine lv_aload_n hx hb d_Prc_changeMemory_111 rfl (lv_at hl 3 rfl) ?_
      refine gt_Prc X hP 0 (by decide) (v := .ref (a 1)) q_194 rfl d_Prc_changeMemory_112 ?_
      refine lv_iload hx hb d_Prc_changeMemory_115 (lv_at hl 0 rfl) ?_
      refine lv_iload_n hx hb d_Prc_changeMemory_117 rfl (lv_at hl 1 rfl) ?_
      refine kv_vs (rest := [.int ((x1 >>> ((5 : Int32) &&& 31))), .ref (a 3)]) X hP hS (c_Bus_readValue l D cB cI a bz ha S17 r16 (f_Reg_wideA S)) (kw_Bus_readValue hts q_391 ⟨Nat.le_of_ble_eq_true rfl, Nat.le_of_ble_eq_true rfl⟩) 1 rfl rfl rfl hl.1 rfl (lv_room (Nat.le_of_ble_eq_true rfl)) d_Prc_changeMemory_118 (fun r19 S20 H locs e21 hP hS => ?_)
      refine lv_iload_n hx hb d_Prc_changeMemory_121 rfl (lv_at hl 1 rfl) ?_
      refine kv_vs (rest := []) X hP hS (c_Prc_changed l D cB cI a bz ha S20 (x1 >>> ((5 : Int32) &&& 31)) r19 (f_Reg_wideA S)) (kw_Prc_changed hts q_445 ⟨Nat.le_of_ble_eq_true rfl, Nat.le_of_ble_eq_true rfl⟩) 3 rfl rfl rfl hl.1 rfl (lv_room (Nat.le_of_ble_eq_true rfl)) d_Prc_changeMemory_122 (fun r22 S23 H locs e24 hP hS => ?_)
      refine lv_istore hx hb d_Prc_changeMemory_125 hl (Nat.le_of_ble_eq_true rfl) rfl (fun ls hl => ?_)
      have hl : lv_has ls 6 [(5, .int (r22)), (4, .int (r16)), (3, .int ((f_Reg_wideA S))), (2, .int ((5 : Int32))), (0, .ref (a 3)), (1, .int (x1))] := hl
      refine lv_aload_n hx hb d_Prc_changeMemory_127 rfl (lv_at hl 4 rfl) ?_
      refine gt_Prc X hP 1 (by decide) (v := .ref (a 2)) q_195 rfl d_Prc_changeMemory_128 ?_
      refine lv_iload hx hb d_Prc_changeMemory_131 (lv_at hl 0 rfl) ?_
      refine lv_iload_n hx hb d_Prc_changeMemory_133 rfl (lv_at hl 2 rfl) ?_
      refine kv_s (rest := []) X hP hS (c_Reg_showResult l D cB cI a bz ha S23 r22 (f_Reg_wideA S)) (kw_Reg_showResult hts q_423 ⟨Nat.le_of_ble_eq_true rfl, Nat.le_of_ble_eq_true rfl⟩) 2 rfl rfl rfl hl.1 rfl (lv_room (Nat.le_of_ble_eq_true rfl)) d_Prc_changeMemory_134 (fun S25 H locs e26 hP hS => ?_)
      refine lv_aload_n hx hb d_Prc_changeMemory_137 rfl (lv_at hl 4 rfl) ?_
      refine gt_Prc X hP 0 (by decide) (v := .ref (a 1)) q_194 rfl d_Prc_changeMemory_138 ?_
      refine lv_iload hx hb d_Prc_changeMemory_141 (lv_at hl 1 rfl) ?_
      refine lv_iload hx hb d_Prc_changeMemory_143 (lv_at hl 0 rfl) ?_
      refine lv_iload_n hx hb d_Prc_changeMemory_145 rfl (lv_at hl 2 rfl) ?_
      refine kv_s (rest := []) X hP hS (c_Bus_writeValue l D cB cI a bz ha S25 r16 r22 (f_Reg_wideA S)) (kw_Bus_writeValue hts q_382 ⟨Nat.le_of_ble_eq_true rfl, Nat.le_of_ble_eq_true rfl⟩) 1 rfl rfl rfl hl.1 rfl (lv_room (Nat.le_of_ble_eq_true rfl)) d_Prc_changeMemory_146 (fun S27 H locs e28 hP hS => ?_)
      refine lv_iconst (v := (1 : Int32)) hx hb d_Prc_changeMemory_149 (by decide) ?_
      exact rt_z X hr hk hP hS (by decide) (by rw [f_Prc_changeMemory, if_neg h1, if_pos h15, bn_eq e18, bn_eq e21, bn_eq e24, bs_eq e26, bs_eq e28]) d_Prc_changeMemory_150
    ·
      by_cases h29 : x1 = (70 : Int32)
      ·
        refine sw_l (k := (70 : Int32)) (tgt := 76) hx hb d_Prc_changeMemory_1 h29 rfl ?_
        refine lv_iconst (v := (5 : Int32)) hx hb d_Prc_changeMemory_76 (by decide) ?_
        refine lv_istore_n hx hb d_Prc_changeMemory_77 rfl hl (Nat.le_of_ble_eq_true rfl) rfl (fun ls hl => ?_)
        have hl : lv_has ls 6 [(2, .int ((5 : Int32))), (0, .ref (a 3)), (1, .int (x1))] := hl
        refine lv_goto (tgt := 89) hx hb d_Prc_changeMemory_78 rfl ?_
        refine lv_aload_n hx hb d_Prc_changeMemory_89 rfl (lv_at hl 1 rfl) ?_
        refine gt_Prc X hP 1 (by decide) (v := .ref (a 2)) q_195 rfl d_Prc_changeMemory_90 ?_
        refine kv_v (rest := []) X hP hS (c_Reg_wideA l D cB cI a bz ha S) (kw_Reg_wideA hts q_346 ⟨Nat.le_of_ble_eq_true rfl, Nat.le_of_ble_eq_true rfl⟩) 2 rfl rfl rfl hl.1 rfl (lv_room (Nat.le_of_ble_eq_true rfl)) d_Prc_changeMemory_93 (fun H locs hP hS => ?_)
        refine lv_istore_n hx hb d_Prc_changeMemory_96 rfl hl (Nat.le_of_ble_eq_true rfl) rfl (fun ls hl => ?_)
        have hl : lv_has ls 6 [(3, .int ((f_Reg_wideA S))), (2, .int ((5 : Int32))), (0, .ref (a 3)), (1, .int (x1))] := hl
        refine lv_aload_n hx hb d_Prc_changeMemory_97 rfl (lv_at hl 2 rfl) ?_
        refine gt_Prc X hP 2 (by decide) (v := .ref (a 4)) q_196 rfl d_Prc_changeMemory_98 ?_
        refine lv_iload_n hx hb d_Prc_changeMemory_101 rfl (lv_at hl 1 rfl) ?_
        refine kv_vs (rest := []) X hP hS (c_Opd_place l D cB cI a bz ha S (5 : Int32)) (kw_Opd_place hts q_350 ⟨Nat.le_of_ble_eq_true rfl, Nat.le_of_ble_eq_true rfl⟩) 4 rfl rfl rfl hl.1 rfl (lv_room (Nat.le_of_ble_eq_true rfl)) d_Prc_changeMemory_102 (fun r30 S31 H locs e32 hP hS => ?_)
        refine lv_istore hx hb d_Prc_changeMemory_105 hl (Nat.le_of_ble_eq_true rfl) rfl (fun ls hl => ?_)
        have hl : lv_has ls 6 [(4, .int (r30)), (3, .int ((f_Reg_wideA S))), (2, .int ((5 : Int32))), (0, .ref (a 3)), (1, .int (x1))] := hl
        refine lv_aload_n hx hb d_Prc_changeMemory_107 rfl (lv_at hl 3 rfl) ?_
        refine lv_iload_n hx hb d_Prc_changeMemory_108 rfl (lv_at hl 4 rfl) ?_
        refine lv_iconst (v := (5 : Int32)) hx hb d_Prc_changeMemory_109 (by decide) ?_
        refine lv_ishr hx hb d_Prc_changeMemory_110 ?_
        refine lv_aload_n hx hb d_Prc_changeMemory_111 rfl (lv_at hl 3 rfl) ?_
        refine gt_Prc X hP 0 (by decide) (v := .ref (a 1)) q_194 rfl d_Prc_changeMemory_112 ?_
        refine lv_iload hx hb d_Prc_changeMemory_115 (lv_at hl 0 rfl) ?_
        refine lv_iload_n hx hb d_Prc_changeMemory_117 rfl (lv_at hl 1 rfl) ?_
        refine kv_vs (rest := [.int ((x1 >>> ((5 : Int32) &&& 31))), .ref (a 3)]) X hP hS (c_Bus_readValue l D cB cI a bz ha S31 r30 (f_Reg_wideA S)) (kw_Bus_readValue hts q_391 ⟨Nat.le_of_ble_eq_true rfl, Nat.le_of_ble_eq_true rfl⟩) 1 rfl rfl rfl hl.1 rfl (lv_room (Nat.le_of_ble_eq_true rfl)) d_Prc_changeMemory_118 (fun r33 S34 H locs e35 hP hS => ?_)
        refine lv_iload_n hx hb d_Prc_changeMemory_121 rfl (lv_at hl 1 rfl) ?_
        refine kv_vs (rest := []) X hP hS (c_Prc_changed l D cB cI a bz ha S34 (x1 >>> ((5 : Int32) &&& 31)) r33 (f_Reg_wideA S)) (kw_Prc_changed hts q_445 ⟨Nat.le_of_ble_eq_true rfl, Nat.le_of_ble_eq_true rfl⟩) 3 rfl rfl rfl hl.1 rfl (lv_room (Nat.le_of_ble_eq_true rfl)) d_Prc_changeMemory_122 (fun r36 S37 H locs e38 hP hS => ?_)
        refine lv_istore hx hb d_Prc_changeMemory_125 hl (Nat.le_of_ble_eq_true rfl) rfl (fun ls hl => ?_)
        have hl : lv_has ls 6 [(5, .int (r36)), (4, .int (r30)), (3, .int ((f_Reg_wideA S))), (2, .int ((5 : Int32))), (0, .ref (a 3)), (1, .int (x1))] := hl
        refine lv_aload_n hx hb d_Prc_changeMemory_127 rfl (lv_at hl 4 rfl) ?_
        refine gt_Prc X hP 1 (by decide) (v := .ref (a 2)) q_195 rfl d_Prc_changeMemory_128 ?_
        refine lv_iload hx hb d_Prc_changeMemory_131 (lv_at hl 0 rfl) ?_
        refine lv_iload_n hx hb d_Prc_changeMemory_133 rfl (lv_at hl 2 rfl) ?_
        refine kv_s (rest := []) X hP hS (c_Reg_showResult l D cB cI a bz ha S37 r36 (f_Reg_wideA S)) (kw_Reg_showResult hts q_423 ⟨Nat.le_of_ble_eq_true rfl, Nat.le_of_ble_eq_true rfl⟩) 2 rfl rfl rfl hl.1 rfl (lv_room (Nat.le_of_ble_eq_true rfl)) d_Prc_changeMemory_134 (fun S39 H locs e40 hP hS => ?_)
        refine lv_aload_n hx hb d_Prc_changeMemory_137 rfl (lv_at hl 4 rfl) ?_
        refine gt_Prc X hP 0 (by decide) (v := .ref (a 1)) q_194 rfl d_Prc_changeMemory_138 ?_
        refine lv_iload hx hb d_Prc_changeMemory_141 (lv_at hl 1 rfl) ?_
        refine lv_iload hx hb d_Prc_changeMemory_143 (lv_at hl 0 rfl) ?_
        refine lv_iload_n hx hb d_Prc_changeMemory_145 rfl (lv_at hl 2 rfl) ?_
        refine kv_s (rest := []) X hP hS (c_Bus_writeValue l D cB cI a bz ha S39 r30 r36 (f_Reg_wideA S)) (kw_Bus_writeValue hts q_382 ⟨Nat.le_of_ble_eq_true rfl, Nat.le_of_ble_eq_true rfl⟩) 1 rfl rfl rfl hl.1 rfl (lv_room (Nat.le_of_ble_eq_true rfl)) d_Prc_changeMemory_146 (fun S41 H locs e42 hP hS => ?_)
        refine lv_iconst (v := (1 : Int32)) hx hb d_Prc_changeMemory_149 (by decide) ?_
        exact rt_z X hr hk hP hS (by decide) (by rw [f_Prc_changeMemory, if_neg h1, if_neg h15, if_pos h29, bn_eq e32, bn_eq e35, bn_eq e38, bs_eq e40, bs_eq e42]) d_Prc_changeMemory_150
      ·
        by_cases h43 : x1 = (102 : Int32)
        ·
          refine sw_l (k := (102 : Int32)) (tgt := 76) hx hb d_Prc_changeMemory_1 h43 rfl ?_
          refine lv_iconst (v := (5 : Int32)) hx hb d_Prc_changeMemory_76 (by decide) ?_
          refine lv_istore_n hx hb d_Prc_changeMemory_77 rfl hl (Nat.le_of_ble_eq_true rfl) rfl (fun ls hl => ?_)
          have hl : lv_has ls 6 [(2, .int ((5 : Int32))), (0, .ref (a 3)), (1, .int (x1))] := hl
          refine lv_goto (tgt := 89) hx hb d_Prc_changeMemory_78 rfl ?_
          refine lv_aload_n hx hb d_Prc_changeMemory_89 rfl (lv_at hl 1 rfl) ?_
          refine gt_Prc X hP 1 (by decide) (v := .ref (a 2)) q_195 rfl d_Prc_changeMemory_90 ?_
          refine kv_v (rest := []) X hP hS (c_Reg_wideA l D cB cI a bz ha S) (kw_Reg_wideA hts q_346 ⟨Nat.le_of_ble_eq_true rfl, Nat.le_of_ble_eq_true rfl⟩) 2 rfl rfl rfl hl.1 rfl (lv_room (Nat.le_of_ble_eq_true rfl)) d_Prc_changeMemory_93 (fun H locs hP hS => ?_)
          refine lv_istore_n hx hb d_Prc_changeMemory_96 rfl hl (Nat.le_of_ble_eq_true rfl) rfl (fun ls hl => ?_)
          have hl : lv_has ls 6 [(3, .int ((f_Reg_wideA S))), (2, .int ((5 : Int32))), (0, .ref (a 3)), (1, .int (x1))] := hl
          refine lv_aload_n hx hb d_Prc_changeMemory_97 rfl (lv_at hl 2 rfl) ?_
          refine gt_Prc X hP 2 (by decide) (v := .ref (a 4)) q_196 rfl d_Prc_changeMemory_98 ?_
          refine lv_iload_n hx hb d_Prc_changeMemory_101 rfl (lv_at hl 1 rfl) ?_
          refine kv_vs (rest := []) X hP hS (c_Opd_place l D cB cI a bz ha S (5 : Int32)) (kw_Opd_place hts q_350 ⟨Nat.le_of_ble_eq_true rfl, Nat.le_of_ble_eq_true rfl⟩) 4 rfl rfl rfl hl.1 rfl (lv_room (Nat.le_of_ble_eq_true rfl)) d_Prc_changeMemory_102 (fun r44 S45 H locs e46 hP hS => ?_)
          refine lv_istore hx hb d_Prc_changeMemory_105 hl (Nat.le_of_ble_eq_true rfl) rfl (fun ls hl => ?_)
          have hl : lv_has ls 6 [(4, .int (r44)), (3, .int ((f_Reg_wideA S))), (2, .int ((5 : Int32))), (0, .ref (a 3)), (1, .int (x1))] := hl
          refine lv_aload_n hx hb d_Prc_changeMemory_107 rfl (lv_at hl 3 rfl) ?_
          refine lv_iload_n hx hb d_Prc_changeMemory_108 rfl (lv_at hl 4 rfl) ?_
          refine lv_iconst (v := (5 : Int32)) hx hb d_Prc_changeMemory_109 (by decide) ?_
          refine lv_ishr hx hb d_Prc_changeMemory_110 ?_
          refine lv_aload_n hx hb d_Prc_changeMemory_111 rfl (lv_at hl 3 rfl) ?_
          refine gt_Prc X hP 0 (by decide) (v := .ref (a 1)) q_194 rfl d_Prc_changeMemory_112 ?_
          refine lv_iload hx hb d_Prc_changeMemory_115 (lv_at hl 0 rfl) ?_
          refine lv_iload_n hx hb d_Prc_changeMemory_117 rfl (lv_at hl 1 rfl) ?_
          refine kv_vs (rest := [.int ((x1 >>> ((5 : Int32) &&& 31))), .ref (a 3)]) X hP hS (c_Bus_readValue l D cB cI a bz ha S45 r44 (f_Reg_wideA S)) (kw_Bus_readValue hts q_391 ⟨Nat.le_of_ble_eq_true rfl, Nat.le_of_ble_eq_true rfl⟩) 1 rfl rfl rfl hl.1 rfl (lv_room (Nat.le_of_ble_eq_true rfl)) d_Prc_changeMemory_118 (fun r47 S48 H locs e49 hP hS => ?_)
          refine lv_iload_n hx hb d_Prc_changeMemory_121 rfl (lv_at hl 1 rfl) ?_
          refine kv_vs (rest := []) X hP hS (c_Prc_changed l D cB cI a bz ha S48 (x1 >>> ((5 : Int32) &&& 31)) r47 (f_Reg_wideA S)) (kw_Prc_changed hts q_445 ⟨Nat.le_of_ble_eq_true rfl, Nat.le_of_ble_eq_true rfl⟩) 3 rfl rfl rfl hl.1 rfl (lv_room (Nat.le_of_ble_eq_true rfl)) d_Prc_changeMemory_122 (fun r50 S51 H locs e52 hP hS => ?_)
          refine lv_istore hx hb d_Prc_changeMemory_125 hl (Nat.le_of_ble_eq_true rfl) rfl (fun ls hl => ?_)
          have hl : lv_has ls 6 [(5, .int (r50)), (4, .int (r44)), (3, .int ((f_Reg_wideA S))), (2, .int ((5 : Int32))), (0, .ref (a 3)), (1, .int (x1))] := hl
          refine lv_aload_n hx hb d_Prc_changeMemory_127 rfl (lv_at hl 4 rfl) ?_
          refine gt_Prc X hP 1 (by decide) (v := .ref (a 2)) q_195 rfl d_Prc_changeMemory_128 ?_
          refine lv_iload hx hb d_Prc_changeMemory_131 (lv_at hl 0 rfl) ?_
          refine lv_iload_n hx hb d_Prc_changeMemory_133 rfl (lv_at hl 2 rfl) ?_
          refine kv_s (rest := []) X hP hS (c_Reg_showResult l D cB cI a bz ha S51 r50 (f_Reg_wideA S)) (kw_Reg_showResult hts q_423 ⟨Nat.le_of_ble_eq_true rfl, Nat.le_of_ble_eq_true rfl⟩) 2 rfl rfl rfl hl.1 rfl (lv_room (Nat.le_of_ble_eq_true rfl)) d_Prc_changeMemory_134 (fun S53 H locs e54 hP hS => ?_)
          refine lv_aload_n hx hb d_Prc_changeMemory_137 rfl (lv_at hl 4 rfl) ?_
          refine gt_Prc X hP 0 (by decide) (v := .ref (a 1)) q_194 rfl d_Prc_changeMemory_138 ?_
          refine lv_iload hx hb d_Prc_changeMemory_141 (lv_at hl 1 rfl) ?_
          refine lv_iload hx hb d_Prc_changeMemory_143 (lv_at hl 0 rfl) ?_
          refine lv_iload_n hx hb d_Prc_changeMemory_145 rfl (lv_at hl 2 rfl) ?_
          refine kv_s (rest := []) X hP hS (c_Bus_writeValue l D cB cI a bz ha S53 r44 r50 (f_Reg_wideA S)) (kw_Bus_writeValue hts q_382 ⟨Nat.le_of_ble_eq_true rfl, Nat.le_of_ble_eq_true rfl⟩) 1 rfl rfl rfl hl.1 rfl (lv_room (Nat.le_of_ble_eq_true rfl)) d_Prc_changeMemory_146 (fun S55 H locs e56 hP hS => ?_)
          refine lv_iconst (v := (1 : Int32)) hx hb d_Prc_changeMemory_149 (by decide) ?_
          exact rt_z X hr hk hP hS (by decide) (by rw [f_Prc_changeMemory, if_neg h1, if_neg h15, if_neg h29, if_pos h43, bn_eq e46, bn_eq e49, bn_eq e52, bs_eq e54, bs_eq e56]) d_Prc_changeMemory_150
        ·
          by_cases h57 : x1 = (198 : Int32)
          ·
            refine sw_l (k := (198 : Int32)) (tgt := 76) hx hb d_Prc_changeMemory_1 h57 rfl ?_
            refine lv_iconst (v := (5 : Int32)) hx hb d_Prc_changeMemory_76 (by decide) ?_
            refine lv_istore_n hx hb d_Prc_changeMemory_77 rfl hl (Nat.le_of_ble_eq_true rfl) rfl (fun ls hl => ?_)
            have hl : lv_has ls 6 [(2, .int ((5 : Int32))), (0, .ref (a 3)), (1, .int (x1))] := hl
            refine lv_goto (tgt := 89) hx hb d_Prc_changeMemory_78 rfl ?_
            refine lv_aload_n hx hb d_Prc_changeMemory_89 rfl (lv_at hl 1 rfl) ?_
            refine gt_Prc X hP 1 (by decide) (v := .ref (a 2)) q_195 rfl d_Prc_changeMemory_90 ?_
            refine kv_v (rest := []) X hP hS (c_Reg_wideA l D cB cI a bz ha S) (kw_Reg_wideA hts q_346 ⟨Nat.le_of_ble_eq_true rfl, Nat.le_of_ble_eq_true rfl⟩) 2 rfl rfl rfl hl.1 rfl (lv_room (Nat.le_of_ble_eq_true rfl)) d_Prc_changeMemory_93 (fun H locs hP hS => ?_)
            refine lv_istore_n hx hb d_Prc_changeMemory_96 rfl hl (Nat.le_of_ble_eq_true rfl) rfl (fun ls hl => ?_)
            have hl : lv_has ls 6 [(3, .int ((f_Reg_wideA S))), (2, .int ((5 : Int32))), (0, .ref (a 3)), (1, .int (x1))] := hl
            refine lv_aload_n hx hb d_Prc_changeMemory_97 rfl (lv_at hl 2 rfl) ?_
            refine gt_Prc X hP 2 (by decide) (v := .ref (a 4)) q_196 rfl d_Prc_changeMemory_98 ?_
            refine lv_iload_n hx hb d_Prc_changeMemory_101 rfl (lv_at hl 1 rfl) ?_
            refine kv_vs (rest := []) X hP hS (c_Opd_place l D cB cI a bz ha S (5 : Int32)) (kw_Opd_place hts q_350 ⟨Nat.le_of_ble_eq_true rfl, Nat.le_of_ble_eq_true rfl⟩) 4 rfl rfl rfl hl.1 rfl (lv_room (Nat.le_of_ble_eq_true rfl)) d_Prc_changeMemory_102 (fun r58 S59 H locs e60 hP hS => ?_)
            refine lv_istore hx hb d_Prc_changeMemory_105 hl (Nat.le_of_ble_eq_true rfl) rfl (fun ls hl => ?_)
            have hl : lv_has ls 6 [(4, .int (r58)), (3, .int ((f_Reg_wideA S))), (2, .int ((5 : Int32))), (0, .ref (a 3)), (1, .int (x1))] := hl
            refine lv_aload_n hx hb d_Prc_changeMemory_107 rfl (lv_at hl 3 rfl) ?_
            refine lv_iload_n hx hb d_Prc_changeMemory_108 rfl (lv_at hl 4 rfl) ?_
            refine lv_iconst (v := (5 : Int32)) hx hb d_Prc_changeMemory_109 (by decide) ?_
            refine lv_ishr hx hb d_Prc_changeMemory_110 ?_
            refine lv_aload_n hx hb d_Prc_changeMemory_111 rfl (lv_at hl 3 rfl) ?_
            refine gt_Prc X hP 0 (by decide) (v := .ref (a 1)) q_194 rfl d_Prc_changeMemory_112 ?_
            refine lv_iload hx hb d_Prc_changeMemory_115 (lv_at hl 0 rfl) ?_
            refine lv_iload_n hx hb d_Prc_changeMemory_117 rfl (lv_at hl 1 rfl) ?_
            refine kv_vs (rest := [.int ((x1 >>> ((5 : Int32) &&& 31))), .ref (a 3)]) X hP hS (c_Bus_readValue l D cB cI a bz ha S59 r58 (f_Reg_wideA S)) (kw_Bus_readValue hts q_391 ⟨Nat.le_of_ble_eq_true rfl, Nat.le_of_ble_eq_true rfl⟩) 1 rfl rfl rfl hl.1 rfl (lv_room (Nat.le_of_ble_eq_true rfl)) d_Prc_changeMemory_118 (fun r61 S62 H locs e63 hP hS => ?_)
            refine lv_iload_n hx hb d_Prc_changeMemory_121 rfl (lv_at hl 1 rfl) ?_
            refine kv_vs (rest := []) X hP hS (c_Prc_changed l D cB cI a bz ha S62 (x1 >>> ((5 : Int32) &&& 31)) r61 (f_Reg_wideA S)) (kw_Prc_changed hts q_445 ⟨Nat.le_of_ble_eq_true rfl, Nat.le_of_ble_eq_true rfl⟩) 3 rfl rfl rfl hl.1 rfl (lv_room (Nat.le_of_ble_eq_true rfl)) d_Prc_changeMemory_122 (fun r64 S65 H locs e66 hP hS => ?_)
            refine lv_istore hx hb d_Prc_changeMemory_125 hl (Nat.le_of_ble_eq_true rfl) rfl (fun ls hl => ?_)
            have hl : lv_has ls 6 [(5, .int (r64)), (4, .int (r58)), (3, .int ((f_Reg_wideA S))), (2, .int ((5 : Int32))), (0, .ref (a 3)), (1, .int (x1))] := hl
            refine lv_aload_n hx hb d_Prc_changeMemory_127 rfl (lv_at hl 4 rfl) ?_
            refine gt_Prc X hP 1 (by decide) (v := .ref (a 2)) q_195 rfl d_Prc_changeMemory_128 ?_
            refine lv_iload hx hb d_Prc_changeMemory_131 (lv_at hl 0 rfl) ?_
            refine lv_iload_n hx hb d_Prc_changeMemory_133 rfl (lv_at hl 2 rfl) ?_
            refine kv_s (rest := []) X hP hS (c_Reg_showResult l D cB cI a bz ha S65 r64 (f_Reg_wideA S)) (kw_Reg_showResult hts q_423 ⟨Nat.le_of_ble_eq_true rfl, Nat.le_of_ble_eq_true rfl⟩) 2 rfl rfl rfl hl.1 rfl (lv_room (Nat.le_of_ble_eq_true rfl)) d_Prc_changeMemory_134 (fun S67 H locs e68 hP hS => ?_)
            refine lv_aload_n hx hb d_Prc_changeMemory_137 rfl (lv_at hl 4 rfl) ?_
            refine gt_Prc X hP 0 (by decide) (v := .ref (a 1)) q_194 rfl d_Prc_changeMemory_138 ?_
            refine lv_iload hx hb d_Prc_changeMemory_141 (lv_at hl 1 rfl) ?_
            refine lv_iload hx hb d_Prc_changeMemory_143 (lv_at hl 0 rfl) ?_
            refine lv_iload_n hx hb d_Prc_changeMemory_145 rfl (lv_at hl 2 rfl) ?_
            refine kv_s (rest := []) X hP hS (c_Bus_writeValue l D cB cI a bz ha S67 r58 r64 (f_Reg_wideA S)) (kw_Bus_writeValue hts q_382 ⟨Nat.le_of_ble_eq_true rfl, Nat.le_of_ble_eq_true rfl⟩) 1 rfl rfl rfl hl.1 rfl (lv_room (Nat.le_of_ble_eq_true rfl)) d_Prc_changeMemory_146 (fun S69 H locs e70 hP hS => ?_)
            refine lv_iconst (v := (1 : Int32)) hx hb d_Prc_changeMemory_149 (by decide) ?_
            exact rt_z X hr hk hP hS (by decide) (by rw [f_Prc_changeMemory, if_neg h1, if_neg h15, if_neg h29, if_neg h43, if_pos h57, bn_eq e60, bn_eq e63, bn_eq e66, bs_eq e68, bs_eq e70]) d_Prc_changeMemory_150
          ·
            by_cases h71 : x1 = (206 : Int32)
            ·
              refine sw_l (k := (206 : Int32)) (tgt := 81) hx hb d_Prc_changeMemory_1 h71 rfl ?_
              refine lv_bipush (v := (13 : Int32)) hx hb d_Prc_changeMemory_81 (by decide) ?_
              refine lv_istore_n hx hb d_Prc_changeMemory_83 rfl hl (Nat.le_of_ble_eq_true rfl) rfl (fun ls hl => ?_)
              have hl : lv_has ls 6 [(2, .int ((13 : Int32))), (0, .ref (a 3)), (1, .int (x1))] := hl
              refine lv_goto (tgt := 89) hx hb d_Prc_changeMemory_84 rfl ?_
              refine lv_aload_n hx hb d_Prc_changeMemory_89 rfl (lv_at hl 1 rfl) ?_
              refine gt_Prc X hP 1 (by decide) (v := .ref (a 2)) q_195 rfl d_Prc_changeMemory_90 ?_
              refine kv_v (rest := []) X hP hS (c_Reg_wideA l D cB cI a bz ha S) (kw_Reg_wideA hts q_346 ⟨Nat.le_of_ble_eq_true rfl, Nat.le_of_ble_eq_true rfl⟩) 2 rfl rfl rfl hl.1 rfl (lv_room (Nat.le_of_ble_eq_true rfl)) d_Prc_changeMemory_93 (fun H locs hP hS => ?_)
              refine lv_istore_n hx hb d_Prc_changeMemory_96 rfl hl (Nat.le_of_ble_eq_true rfl) rfl (fun ls hl => ?_)
              have hl : lv_has ls 6 [(3, .int ((f_Reg_wideA S))), (2, .int ((13 : Int32))), (0, .ref (a 3)), (1, .int (x1))] := hl
              refine lv_aload_n hx hb d_Prc_changeMemory_97 rfl (lv_at hl 2 rfl) ?_
              refine gt_Prc X hP 2 (by decide) (v := .ref (a 4)) q_196 rfl d_Prc_changeMemory_98 ?_
              refine lv_iload_n hx hb d_Prc_changeMemory_101 rfl (lv_at hl 1 rfl) ?_
              refine kv_vs (rest := []) X hP hS (c_Opd_place l D cB cI a bz ha S (13 : Int32)) (kw_Opd_place hts q_350 ⟨Nat.le_of_ble_eq_true rfl, Nat.le_of_ble_eq_true rfl⟩) 4 rfl rfl rfl hl.1 rfl (lv_room (Nat.le_of_ble_eq_true rfl)) d_Prc_changeMemory_102 (fun r72 S73 H locs e74 hP hS => ?_)
              refine lv_istore hx hb d_Prc_changeMemory_105 hl (Nat.le_of_ble_eq_true rfl) rfl (fun ls hl => ?_)
              have hl : lv_has ls 6 [(4, .int (r72)), (3, .int ((f_Reg_wideA S))), (2, .int ((13 : Int32))), (0, .ref (a 3)), (1, .int (x1))] := hl
              refine lv_aload_n hx hb d_Prc_changeMemory_107 rfl (lv_at hl 3 rfl) ?_
              refine lv_iload_n hx hb d_Prc_changeMemory_108 rfl (lv_at hl 4 rfl) ?_
              refine lv_iconst (v := (5 : Int32)) hx hb d_Prc_changeMemory_109 (by decide) ?_
              refine lv_ishr hx hb d_Prc_changeMemory_110 ?_
              refine lv_aload_n hx hb d_Prc_changeMemory_111 rfl (lv_at hl 3 rfl) ?_
              refine gt_Prc X hP 0 (by decide) (v := .ref (a 1)) q_194 rfl d_Prc_changeMemory_112 ?_
              refine lv_iload hx hb d_Prc_changeMemory_115 (lv_at hl 0 rfl) ?_
              refine lv_iload_n hx hb d_Prc_changeMemory_117 rfl (lv_at hl 1 rfl) ?_
              refine kv_vs (rest := [.int ((x1 >>> ((5 : Int32) &&& 31))), .ref (a 3)]) X hP hS (c_Bus_readValue l D cB cI a bz ha S73 r72 (f_Reg_wideA S)) (kw_Bus_readValue hts q_391 ⟨Nat.le_of_ble_eq_true rfl, Nat.le_of_ble_eq_true rfl⟩) 1 rfl rfl rfl hl.1 rfl (lv_room (Nat.le_of_ble_eq_true rfl)) d_Prc_changeMemory_118 (fun r75 S76 H locs e77 hP hS => ?_)
              refine lv_iload_n hx hb d_Prc_changeMemory_121 rfl (lv_at hl 1 rfl) ?_
              refine kv_vs (rest := []) X hP hS (c_Prc_changed l D cB cI a bz ha S76 (x1 >>> ((5 : Int32) &&& 31)) r75 (f_Reg_wideA S)) (kw_Prc_changed hts q_445 ⟨Nat.le_of_ble_eq_true rfl, Nat.le_of_ble_eq_true rfl⟩) 3 rfl rfl rfl hl.1 rfl (lv_room (Nat.le_of_ble_eq_true rfl)) d_Prc_changeMemory_122 (fun r78 S79 H locs e80 hP hS => ?_)
              refine lv_istore hx hb d_Prc_changeMemory_125 hl (Nat.le_of_ble_eq_true rfl) rfl (fun ls hl => ?_)
              have hl : lv_has ls 6 [(5, .int (r78)), (4, .int (r72)), (3, .int ((f_Reg_wideA S))), (2, .int ((13 : Int32))), (0, .ref (a 3)), (1, .int (x1))] := hl
              refine lv_aload_n hx hb d_Prc_changeMemory_127 rfl (lv_at hl 4 rfl) ?_
              refine gt_Prc X hP 1 (by decide) (v := .ref (a 2)) q_195 rfl d_Prc_changeMemory_128 ?_
              refine lv_iload hx hb d_Prc_changeMemory_131 (lv_at hl 0 rfl) ?_
              refine lv_iload_n hx hb d_Prc_changeMemory_133 rfl (lv_at hl 2 rfl) ?_
              refine kv_s (rest := []) X hP hS (c_Reg_showResult l D cB cI a bz ha S79 r78 (f_Reg_wideA S)) (kw_Reg_showResult hts q_423 ⟨Nat.le_of_ble_eq_true rfl, Nat.le_of_ble_eq_true rfl⟩) 2 rfl rfl rfl hl.1 rfl (lv_room (Nat.le_of_ble_eq_true rfl)) d_Prc_changeMemory_134 (fun S81 H locs e82 hP hS => ?_)
              refine lv_aload_n hx hb d_Prc_changeMemory_137 rfl (lv_at hl 4 rfl) ?_
              refine gt_Prc X hP 0 (by decide) (v := .ref (a 1)) q_194 rfl d_Prc_changeMemory_138 ?_
              refine lv_iload hx hb d_Prc_changeMemory_141 (lv_at hl 1 rfl) ?_
              refine lv_iload hx hb d_Prc_changeMemory_143 (lv_at hl 0 rfl) ?_
              refine lv_iload_n hx hb d_Prc_changeMemory_145 rfl (lv_at hl 2 rfl) ?_
              refine kv_s (rest := []) X hP hS (c_Bus_writeValue l D cB cI a bz ha S81 r72 r78 (f_Reg_wideA S)) (kw_Bus_writeValue hts q_382 ⟨Nat.le_of_ble_eq_true rfl, Nat.le_of_ble_eq_true rfl⟩) 1 rfl rfl rfl hl.1 rfl (lv_room (Nat.le_of_ble_eq_true rfl)) d_Prc_changeMemory_146 (fun S83 H locs e84 hP hS => ?_)
              refine lv_iconst (v := (1 : Int32)) hx hb d_Prc_changeMemory_149 (by decide) ?_
              exact rt_z X hr hk hP hS (by decide) (by rw [f_Prc_changeMemory, if_neg h1, if_neg h15, if_neg h29, if_neg h43, if_neg h57, if_pos h71, bn_eq e74, bn_eq e77, bn_eq e80, bs_eq e82, bs_eq e84]) d_Prc_changeMemory_150
            ·
              by_cases h85 : x1 = (230 : Int32)
              ·
                refine sw_l (k := (230 : Int32)) (tgt := 76) hx hb d_Prc_changeMemory_1 h85 rfl ?_
                refine lv_iconst (v := (5 : Int32)) hx hb d_Prc_changeMemory_76 (by decide) ?_
                refine lv_istore_n hx hb d_Prc_changeMemory_77 rfl hl (Nat.le_of_ble_eq_true rfl) rfl (fun ls hl => ?_)
                have hl : lv_has ls 6 [(2, .int ((5 : Int32))), (0, .ref (a 3)), (1, .int (x1))] := hl
                refine lv_goto (tgt := 89) hx hb d_Prc_changeMemory_78 rfl ?_
                refine lv_aload_n hx hb d_Prc_changeMemory_89 rfl (lv_at hl 1 rfl) ?_
                refine gt_Prc X hP 1 (by decide) (v := .ref (a 2)) q_195 rfl d_Prc_changeMemory_90 ?_
                refine kv_v (rest := []) X hP hS (c_Reg_wideA l D cB cI a bz ha S) (kw_Reg_wideA hts q_346 ⟨Nat.le_of_ble_eq_true rfl, Nat.le_of_ble_eq_true rfl⟩) 2 rfl rfl rfl hl.1 rfl (lv_room (Nat.le_of_ble_eq_true rfl)) d_Prc_changeMemory_93 (fun H locs hP hS => ?_)
                refine lv_istore_n hx hb d_Prc_changeMemory_96 rfl hl (Nat.le_of_ble_eq_true rfl) rfl (fun ls hl => ?_)
                have hl : lv_has ls 6 [(3, .int ((f_Reg_wideA S))), (2, .int ((5 : Int32))), (0, .ref (a 3)), (1, .int (x1))] := hl
                refine lv_aload_n hx hb d_Prc_changeMemory_97 rfl (lv_at hl 2 rfl) ?_
                refine gt_Prc X hP 2 (by decide) (v := .ref (a 4)) q_196 rfl d_Prc_changeMemory_98 ?_
                refine lv_iload_n hx hb d_Prc_changeMemory_101 rfl (lv_at hl 1 rfl) ?_
                refine kv_vs (rest := []) X hP hS (c_Opd_place l D cB cI a bz ha S (5 : Int32)) (kw_Opd_place hts q_350 ⟨Nat.le_of_ble_eq_true rfl, Nat.le_of_ble_eq_true rfl⟩) 4 rfl rfl rfl hl.1 rfl (lv_room (Nat.le_of_ble_eq_true rfl)) d_Prc_changeMemory_102 (fun r86 S87 H locs e88 hP hS => ?_)
                refine lv_istore hx hb d_Prc_changeMemory_105 hl (Nat.le_of_ble_eq_true rfl) rfl (fun ls hl => ?_)
                have hl : lv_has ls 6 [(4, .int (r86)), (3, .int ((f_Reg_wideA S))), (2, .int ((5 : Int32))), (0, .ref (a 3)), (1, .int (x1))] := hl
                refine lv_aload_n hx hb d_Prc_changeMemory_107 rfl (lv_at hl 3 rfl) ?_
                refine lv_iload_n hx hb d_Prc_changeMemory_108 rfl (lv_at hl 4 rfl) ?_
                refine lv_iconst (v := (5 : Int32)) hx hb d_Prc_changeMemory_109 (by decide) ?_
                refine lv_ishr hx hb d_Prc_changeMemory_110 ?_
                refine lv_aload_n hx hb d_Prc_changeMemory_111 rfl (lv_at hl 3 rfl) ?_
                refine gt_Prc X hP 0 (by decide) (v := .ref (a 1)) q_194 rfl d_Prc_changeMemory_112 ?_
                refine lv_iload hx hb d_Prc_changeMemory_115 (lv_at hl 0 rfl) ?_
                refine lv_iload_n hx hb d_Prc_changeMemory_117 rfl (lv_at hl 1 rfl) ?_
                refine kv_vs (rest := [.int ((x1 >>> ((5 : Int32) &&& 31))), .ref (a 3)]) X hP hS (c_Bus_readValue l D cB cI a bz ha S87 r86 (f_Reg_wideA S)) (kw_Bus_readValue hts q_391 ⟨Nat.le_of_ble_eq_true rfl, Nat.le_of_ble_eq_true rfl⟩) 1 rfl rfl rfl hl.1 rfl (lv_room (Nat.le_of_ble_eq_true rfl)) d_Prc_changeMemory_118 (fun r89 S90 H locs e91 hP hS => ?_)
                refine lv_iload_n hx hb d_Prc_changeMemory_121 rfl (lv_at hl 1 rfl) ?_
                refine kv_vs (rest := []) X hP hS (c_Prc_changed l D cB cI a bz ha S90 (x1 >>> ((5 : Int32) &&& 31)) r89 (f_Reg_wideA S)) (kw_Prc_changed hts q_445 ⟨Nat.le_of_ble_eq_true rfl, Nat.le_of_ble_eq_true rfl⟩) 3 rfl rfl rfl hl.1 rfl (lv_room (Nat.le_of_ble_eq_true rfl)) d_Prc_changeMemory_122 (fun r92 S93 H locs e94 hP hS => ?_)
                refine lv_istore hx hb d_Prc_changeMemory_125 hl (Nat.le_of_ble_eq_true rfl) rfl (fun ls hl => ?_)
                have hl : lv_has ls 6 [(5, .int (r92)), (4, .int (r86)), (3, .int ((f_Reg_wideA S))), (2, .int ((5 : Int32))), (0, .ref (a 3)), (1, .int (x1))] := hl
                refine lv_aload_n hx hb d_Prc_changeMemory_127 rfl (lv_at hl 4 rfl) ?_
                refine gt_Prc X hP 1 (by decide) (v := .ref (a 2)) q_195 rfl d_Prc_changeMemory_128 ?_
                refine lv_iload hx hb d_Prc_changeMemory_131 (lv_at hl 0 rfl) ?_
                refine lv_iload_n hx hb d_Prc_changeMemory_133 rfl (lv_at hl 2 rfl) ?_
                refine kv_s (rest := []) X hP hS (c_Reg_showResult l D cB cI a bz ha S93 r92 (f_Reg_wideA S)) (kw_Reg_showResult hts q_423 ⟨Nat.le_of_ble_eq_true rfl, Nat.le_of_ble_eq_true rfl⟩) 2 rfl rfl rfl hl.1 rfl (lv_room (Nat.le_of_ble_eq_true rfl)) d_Prc_changeMemory_134 (fun S95 H locs e96 hP hS => ?_)
                refine lv_aload_n hx hb d_Prc_changeMemory_137 rfl (lv_at hl 4 rfl) ?_
                refine gt_Prc X hP 0 (by decide) (v := .ref (a 1)) q_194 rfl d_Prc_changeMemory_138 ?_
                refine lv_iload hx hb d_Prc_changeMemory_141 (lv_at hl 1 rfl) ?_
                refine lv_iload hx hb d_Prc_changeMemory_143 (lv_at hl 0 rfl) ?_
                refine lv_iload_n hx hb d_Prc_changeMemory_145 rfl (lv_at hl 2 rfl) ?_
                refine kv_s (rest := []) X hP hS (c_Bus_writeValue l D cB cI a bz ha S95 r86 r92 (f_Reg_wideA S)) (kw_Bus_writeValue hts q_382 ⟨Nat.le_of_ble_eq_true rfl, Nat.le_of_ble_eq_true rfl⟩) 1 rfl rfl rfl hl.1 rfl (lv_room (Nat.le_of_ble_eq_true rfl)) d_Prc_changeMemory_146 (fun S97 H locs e98 hP hS => ?_)
                refine lv_iconst (v := (1 : Int32)) hx hb d_Prc_changeMemory_149 (by decide) ?_
                exact rt_z X hr hk hP hS (by decide) (by rw [f_Prc_changeMemory, if_neg h1, if_neg h15, if_neg h29, if_neg h43, if_neg h57, if_neg h71, if_pos h85, bn_eq e88, bn_eq e91, bn_eq e94, bs_eq e96, bs_eq e98]) d_Prc_changeMemory_150
              ·
                by_cases h99 : x1 = (238 : Int32)
                ·
                  refine sw_l (k := (238 : Int32)) (tgt := 81) hx hb d_Prc_changeMemory_1 h99 rfl ?_
                  refine lv_bipush (v := (13 : Int32)) hx hb d_Prc_changeMemory_81 (by decide) ?_
                  refine lv_istore_n hx hb d_Prc_changeMemory_83 rfl hl (Nat.le_of_ble_eq_true rfl) rfl (fun ls hl => ?_)
                  have hl : lv_has ls 6 [(2, .int ((13 : Int32))), (0, .ref (a 3)), (1, .int (x1))] := hl
                  refine lv_goto (tgt := 89) hx hb d_Prc_changeMemory_84 rfl ?_
                  refine lv_aload_n hx hb d_Prc_changeMemory_89 rfl (lv_at hl 1 rfl) ?_
                  refine gt_Prc X hP 1 (by decide) (v := .ref (a 2)) q_195 rfl d_Prc_changeMemory_90 ?_
                  refine kv_v (rest := []) X hP hS (c_Reg_wideA l D cB cI a bz ha S) (kw_Reg_wideA hts q_346 ⟨Nat.le_of_ble_eq_true rfl, Nat.le_of_ble_eq_true rfl⟩) 2 rfl rfl rfl hl.1 rfl (lv_room (Nat.le_of_ble_eq_true rfl)) d_Prc_changeMemory_93 (fun H locs hP hS => ?_)
                  refine lv_istore_n hx hb d_Prc_changeMemory_96 rfl hl (Nat.le_of_ble_eq_true rfl) rfl (fun ls hl => ?_)
                  have hl : lv_has ls 6 [(3, .int ((f_Reg_wideA S))), (2, .int ((13 : Int32))), (0, .ref (a 3)), (1, .int (x1))] := hl
                  refine lv_aload_n hx hb d_Prc_changeMemory_97 rfl (lv_at hl 2 rfl) ?_
                  refine gt_Prc X hP 2 (by decide) (v := .ref (a 4)) q_196 rfl d_Prc_changeMemory_98 ?_
                  refine lv_iload_n hx hb d_Prc_changeMemory_101 rfl (lv_at hl 1 rfl) ?_
                  refine kv_vs (rest := []) X hP hS (c_Opd_place l D cB cI a bz ha S (13 : Int32)) (kw_Opd_place hts q_350 ⟨Nat.le_of_ble_eq_true rfl, Nat.le_of_ble_eq_true rfl⟩) 4 rfl rfl rfl hl.1 rfl (lv_room (Nat.le_of_ble_eq_true rfl)) d_Prc_changeMemory_102 (fun r100 S101 H locs e102 hP hS => ?_)
                  refine lv_istore hx hb d_Prc_changeMemory_105 hl (Nat.le_of_ble_eq_true rfl) rfl (fun ls hl => ?_)
                  have hl : lv_has ls 6 [(4, .int (r100)), (3, .int ((f_Reg_wideA S))), (2, .int ((13 : Int32))), (0, .ref (a 3)), (1, .int (x1))] := hl
                  refine lv_aload_n hx hb d_Prc_changeMemory_107 rfl (lv_at hl 3 rfl) ?_
                  refine lv_iload_n hx hb d_Prc_changeMemory_108 rfl (lv_at hl 4 rfl) ?_
                  refine lv_iconst (v := (5 : Int32)) hx hb d_Prc_changeMemory_109 (by decide) ?_
                  refine lv_ishr hx hb d_Prc_changeMemory_110 ?_
                  refine lv_aload_n hx hb d_Prc_changeMemory_111 rfl (lv_at hl 3 rfl) ?_
                  refine gt_Prc X hP 0 (by decide) (v := .ref (a 1)) q_194 rfl d_Prc_changeMemory_112 ?_
                  refine lv_iload hx hb d_Prc_changeMemory_115 (lv_at hl 0 rfl) ?_
                  refine lv_iload_n hx hb d_Prc_changeMemory_117 rfl (lv_at hl 1 rfl) ?_
                  refine kv_vs (rest := [.int ((x1 >>> ((5 : Int32) &&& 31))), .ref (a 3)]) X hP hS (c_Bus_readValue l D cB cI a bz ha S101 r100 (f_Reg_wideA S)) (kw_Bus_readValue hts q_391 ⟨Nat.le_of_ble_eq_true rfl, Nat.le_of_ble_eq_true rfl⟩) 1 rfl rfl rfl hl.1 rfl (lv_room (Nat.le_of_ble_eq_true rfl)) d_Prc_changeMemory_118 (fun r103 S104 H locs e105 hP hS => ?_)
                  refine lv_iload_n hx hb d_Prc_changeMemory_121 rfl (lv_at hl 1 rfl) ?_
                  refine kv_vs (rest := []) X hP hS (c_Prc_changed l D cB cI a bz ha S104 (x1 >>> ((5 : Int32) &&& 31)) r103 (f_Reg_wideA S)) (kw_Prc_changed hts q_445 ⟨Nat.le_of_ble_eq_true rfl, Nat.le_of_ble_eq_true rfl⟩) 3 rfl rfl rfl hl.1 rfl (lv_room (Nat.le_of_ble_eq_true rfl)) d_Prc_changeMemory_122 (fun r106 S107 H locs e108 hP hS => ?_)
                  refine lv_istore hx hb d_Prc_changeMemory_125 hl (Nat.le_of_ble_eq_true rfl) rfl (fun ls hl => ?_)
                  have hl : lv_has ls 6 [(5, .int (r106)), (4, .int (r100)), (3, .int ((f_Reg_wideA S))), (2, .int ((13 : Int32))), (0, .ref (a 3)), (1, .int (x1))] := hl
                  refine lv_aload_n hx hb d_Prc_changeMemory_127 rfl (lv_at hl 4 rfl) ?_
                  refine gt_Prc X hP 1 (by decide) (v := .ref (a 2)) q_195 rfl d_Prc_changeMemory_128 ?_
                  refine lv_iload hx hb d_Prc_changeMemory_131 (lv_at hl 0 rfl) ?_
                  refine lv_iload_n hx hb d_Prc_changeMemory_133 rfl (lv_at hl 2 rfl) ?_
                  refine kv_s (rest := []) X hP hS (c_Reg_showResult l D cB cI a bz ha S107 r106 (f_Reg_wideA S)) (kw_Reg_showResult hts q_423 ⟨Nat.le_of_ble_eq_true rfl, Nat.le_of_ble_eq_true rfl⟩) 2 rfl rfl rfl hl.1 rfl (lv_room (Nat.le_of_ble_eq_true rfl)) d_Prc_changeMemory_134 (fun S109 H locs e110 hP hS => ?_)
                  refine lv_aload_n hx hb d_Prc_changeMemory_137 rfl (lv_at hl 4 rfl) ?_
                  refine gt_Prc X hP 0 (by decide) (v := .ref (a 1)) q_194 rfl d_Prc_changeMemory_138 ?_
                  refine lv_iload hx hb d_Prc_changeMemory_141 (lv_at hl 1 rfl) ?_
                  refine lv_iload hx hb d_Prc_changeMemory_143 (lv_at hl 0 rfl) ?_
                  refine lv_iload_n hx hb d_Prc_changeMemory_145 rfl (lv_at hl 2 rfl) ?_
                  refine kv_s (rest := []) X hP hS (c_Bus_writeValue l D cB cI a bz ha S109 r100 r106 (f_Reg_wideA S)) (kw_Bus_writeValue hts q_382 ⟨Nat.le_of_ble_eq_true rfl, Nat.le_of_ble_eq_true rfl⟩) 1 rfl rfl rfl hl.1 rfl (lv_room (Nat.le_of_ble_eq_true rfl)) d_Prc_changeMemory_146 (fun S111 H locs e112 hP hS => ?_)
                  refine lv_iconst (v := (1 : Int32)) hx hb d_Prc_changeMemory_149 (by decide) ?_
                  exact rt_z X hr hk hP hS (by decide) (by rw [f_Prc_changeMemory, if_neg h1, if_neg h15, if_neg h29, if_neg h43, if_neg h57, if_neg h71, if_neg h85, if_pos h99, bn_eq e102, bn_eq e105, bn_eq e108, bs_eq e110, bs_eq e112]) d_Prc_changeMemory_150
                ·
                  refine sn_l (tgt := 87) hx hb d_Prc_changeMemory_1 rfl ⟨lv_neT h1 rfl, lv_neT h15 rfl, lv_neT h29 rfl, lv_neT h43 rfl, lv_neT h57 rfl, lv_neT h71 rfl, lv_neT h85 rfl, lv_neT h99 rfl, trivial⟩ rfl ?_
                  refine lv_iconst (v := (0 : Int32)) hx hb d_Prc_changeMemory_87 (by decide) ?_
                  exact rt_z X hr hk hP hS (by decide) (by rw [f_Prc_changeMemory, if_neg h1, if_neg h15, if_neg h29, if_neg h43, if_neg h57, if_neg h71, if_neg h85, if_neg h99]) d_Prc_changeMemory_88
