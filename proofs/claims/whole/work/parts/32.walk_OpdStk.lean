set_option maxHeartbeats 4000000 in
set_option maxRecDepth 100000 in
theorem c_Stk_pushByte (l : Launch) (D : va_G) (cB cI : ClassId) (a : Nat → Nat) (bz : Nat) (ha : ap a 8) (S : Sc) (x1 : Int32) : MV l y_Stk_pushByte b_Stk_pushByte 2 rm_Stk_pushByte [.ref (a 5), .int x1] D cB cI (wdC cB cI a) (ow a 8) bz S (f_Stk_pushByte S x1) := by
  refine met_in R_Stk (by decide) rfl (Nat.le_of_ble_eq_true rfl) (wdC_D ha cB cI) ?_
  intro p e s m below meth c ls X hr hk hl hP hS
  have hx := X.1.1
  have hb := X.1.2.1
  have hown := X.1.2.2.2.1
  have hts := X.1.2.2.2.2
  have hl : lv_has ls 2 [(0, .ref (a 5)), (1, .int x1)] := hl
  refine lv_aload_n hx hb d_Stk_pushByte_0 rfl (lv_at hl 0 rfl) ?_
  refine gt_Stk X hP 0 (by decide) (v := .ref (a 1)) q_187 rfl d_Stk_pushByte_1 ?_
  refine lv_aload_n hx hb d_Stk_pushByte_4 rfl (lv_at hl 0 rfl) ?_
  refine gt_Stk X hP 1 (by decide) (v := .ref (a 2)) q_188 rfl d_Stk_pushByte_5 ?_
  refine gt_Reg X hP 3 (by decide) (v := .int (S.1 3)) q_120 rfl d_Stk_pushByte_8 ?_
  refine ks_v (rest := [.ref (a 1)]) X hP hS (c_Bus_bank0Place l D cB cI a bz ha S (S.1 3)) (kw_Bus_bank0Place hts q_287 ⟨Nat.le_of_ble_eq_true rfl, Nat.le_of_ble_eq_true rfl⟩) rfl hl.1 rfl (lv_room (Nat.le_of_ble_eq_true rfl)) d_Stk_pushByte_11 (fun H locs hP hS => ?_)
  refine lv_iload_n hx hb d_Stk_pushByte_14 rfl (lv_at hl 1 rfl) ?_
  refine kv_s (rest := []) X hP hS (c_Bus_writeByte l D cB cI a bz ha S (f_Bus_bank0Place (S.1 3)) x1) (kw_Bus_writeByte hts q_292 ⟨Nat.le_of_ble_eq_true rfl, Nat.le_of_ble_eq_true rfl⟩) 1 rfl rfl rfl hl.1 rfl (lv_room (Nat.le_of_ble_eq_true rfl)) d_Stk_pushByte_15 (fun S1 H locs e2 hP hS => ?_)
  refine lv_aload_n hx hb d_Stk_pushByte_18 rfl (lv_at hl 0 rfl) ?_
  refine gt_Stk X hP 1 (by decide) (v := .ref (a 2)) q_188 rfl d_Stk_pushByte_19 ?_
  refine lv_aload_n hx hb d_Stk_pushByte_22 rfl (lv_at hl 0 rfl) ?_
  refine gt_Stk X hP 1 (by decide) (v := .ref (a 2)) q_188 rfl d_Stk_pushByte_23 ?_
  refine gt_Reg X hP 3 (by decide) (v := .int (S1.1 3)) q_120 rfl d_Stk_pushByte_26 ?_
  refine lv_iconst (v := (1 : Int32)) hx hb d_Stk_pushByte_29 (by decide) ?_
  refine lv_isub hx hb d_Stk_pushByte_30 ?_
  refine lv_ldc (v := (65535 : Int32)) hx hb hown (hts _ q_299) d_Stk_pushByte_31 ?_
  refine lv_iand hx hb d_Stk_pushByte_33 ?_
  refine pt_Reg X hP hS 3 (by decide) (v := (((S1.1 3) - (1 : Int32)) &&& (65535 : Int32))) (S1 := (pr S1 3 ((((S1.1 3) - (1 : Int32)) &&& (65535 : Int32))))) q_120 rfl rfl rfl rfl d_Stk_pushByte_34 (fun H locs hP hS => ?_)
  exact rt_s X hr hk hP hS (by rw [f_Stk_pushByte, bs_eq e2]) d_Stk_pushByte_37
set_option maxHeartbeats 4000000 in
set_option maxRecDepth 100000 in
theorem c_Stk_pushWord (l : Launch) (D : va_G) (cB cI : ClassId) (a : Nat → Nat) (bz : Nat) (ha : ap a 8) (S : Sc) (x1 : Int32) : MV l y_Stk_pushWord b_Stk_pushWord 2 rm_Stk_pushWord [.ref (a 5), .int x1] D cB cI (wdC cB cI a) (ow a 8) bz S (f_Stk_pushWord S x1) := by
  refine met_in R_Stk (by decide) rfl (Nat.le_of_ble_eq_true rfl) (wdC_D ha cB cI) ?_
  intro p e s m below meth c ls X hr hk hl hP hS
  have hx := X.1.1
  have hb := X.1.2.1
  have hown := X.1.2.2.2.1
  have hts := X.1.2.2.2.2
  have hl : lv_has ls 2 [(0, .ref (a 5)), (1, .int x1)] := hl
  refine lv_aload_n hx hb d_Stk_pushWord_0 rfl (lv_at hl 0 rfl) ?_
  refine lv_iload_n hx hb d_Stk_pushWord_1 rfl (lv_at hl 1 rfl) ?_
  refine lv_bipush (v := (8 : Int32)) hx hb d_Stk_pushWord_2 (by decide) ?_
  refine lv_ishr hx hb d_Stk_pushWord_4 ?_
  refine kv_s (rest := []) X hP hS (c_Stk_pushByte l D cB cI a bz ha S (x1 >>> ((8 : Int32) &&& 31))) (kw_Stk_pushByte hts q_304 ⟨Nat.le_of_ble_eq_true rfl, Nat.le_of_ble_eq_true rfl⟩) 5 rfl rfl rfl hl.1 rfl (lv_room (Nat.le_of_ble_eq_true rfl)) d_Stk_pushWord_5 (fun S1 H locs e2 hP hS => ?_)
  refine lv_aload_n hx hb d_Stk_pushWord_8 rfl (lv_at hl 0 rfl) ?_
  refine lv_iload_n hx hb d_Stk_pushWord_9 rfl (lv_at hl 1 rfl) ?_
  refine kv_s (rest := []) X hP hS (c_Stk_pushByte l D cB cI a bz ha S1 x1) (kw_Stk_pushByte hts q_304 ⟨Nat.le_of_ble_eq_true rfl, Nat.le_of_ble_eq_true rfl⟩) 5 rfl rfl rfl hl.1 rfl (lv_room (Nat.le_of_ble_eq_true rfl)) d_Stk_pushWord_10 (fun S3 H locs e4 hP hS => ?_)
  exact rt_s X hr hk hP hS (by rw [f_Stk_pushWord, bs_eq e2, bs_eq e4]) d_Stk_pushWord_13
set_option maxHeartbeats 4000000 in
set_option maxRecDepth 100000 in
theorem c_Opd_nextByte (l : Launch) (D : va_G) (cB cI : ClassId) (a : Nat → Nat) (bz : Nat) (ha : ap a 8) (S : Sc) : MI l y_Opd_nextByte b_Opd_nextByte 2 (some .int) rm_Opd_nextByte [.ref (a 4)] D cB cI (wdC cB cI a) (ow a 8) bz S (f_Opd_nextByte S) := by
  refine met_in R_Opd (by decide) rfl (Nat.le_of_ble_eq_true rfl) (wdC_D ha cB cI) ?_
  intro p e s m below meth c ls X hr hk hl hP hS
  have hx := X.1.1
  have hb := X.1.2.1
  have hown := X.1.2.2.2.1
  have hts := X.1.2.2.2.2
  have hl : lv_has ls 2 [(0, .ref (a 4))] := hl
  refine lv_aload_n hx hb d_Opd_nextByte_0 rfl (lv_at hl 0 rfl) ?_
  refine gt_Opd X hP 0 (by decide) (v := .ref (a 1)) q_174 rfl d_Opd_nextByte_1 ?_
  refine lv_aload_n hx hb d_Opd_nextByte_4 rfl (lv_at hl 0 rfl) ?_
  refine gt_Opd X hP 1 (by decide) (v := .ref (a 2)) q_175 rfl d_Opd_nextByte_5 ?_
  refine gt_Reg X hP 6 (by decide) (v := .int (S.1 6)) q_133 rfl d_Opd_nextByte_8 ?_
  refine lv_aload_n hx hb d_Opd_nextByte_11 rfl (lv_at hl 0 rfl) ?_
  refine gt_Opd X hP 1 (by decide) (v := .ref (a 2)) q_175 rfl d_Opd_nextByte_12 ?_
  refine gt_Reg X hP 7 (by decide) (v := .int (S.1 7)) q_136 rfl d_Opd_nextByte_15 ?_
  refine kv_v (rest := []) X hP hS (c_Bus_programByte l D cB cI a bz ha S (S.1 6) (S.1 7)) (kw_Bus_programByte hts q_334 ⟨Nat.le_of_ble_eq_true rfl, Nat.le_of_ble_eq_true rfl⟩) 1 rfl rfl rfl hl.1 rfl (lv_room (Nat.le_of_ble_eq_true rfl)) d_Opd_nextByte_18 (fun H locs hP hS => ?_)
  refine lv_istore_n hx hb d_Opd_nextByte_21 rfl hl (Nat.le_of_ble_eq_true rfl) rfl (fun ls hl => ?_)
  have hl : lv_has ls 2 [(1, .int ((f_Bus_programByte S (S.1 6) (S.1 7)))), (0, .ref (a 4))] := hl
  refine lv_aload_n hx hb d_Opd_nextByte_22 rfl (lv_at hl 1 rfl) ?_
  refine gt_Opd X hP 1 (by decide) (v := .ref (a 2)) q_175 rfl d_Opd_nextByte_23 ?_
  refine lv_aload_n hx hb d_Opd_nextByte_26 rfl (lv_at hl 1 rfl) ?_
  refine gt_Opd X hP 1 (by decide) (v := .ref (a 2)) q_175 rfl d_Opd_nextByte_27 ?_
  refine gt_Reg X hP 7 (by decide) (v := .int (S.1 7)) q_136 rfl d_Opd_nextByte_30 ?_
  refine lv_iconst (v := (1 : Int32)) hx hb d_Opd_nextByte_33 (by decide) ?_
  refine lv_iadd hx hb d_Opd_nextByte_34 ?_
  refine lv_ldc (v := (65535 : Int32)) hx hb hown (hts _ q_338) d_Opd_nextByte_35 ?_
  refine lv_iand hx hb d_Opd_nextByte_37 ?_
  refine pt_Reg X hP hS 7 (by decide) (v := (((S.1 7) + (1 : Int32)) &&& (65535 : Int32))) (S1 := (pr S 7 ((((S.1 7) + (1 : Int32)) &&& (65535 : Int32))))) q_136 rfl rfl rfl rfl d_Opd_nextByte_38 (fun H locs hP hS => ?_)
  refine lv_iload_n hx hb d_Opd_nextByte_41 rfl (lv_at hl 0 rfl) ?_
  exact rt_vs X hr hk hP hS (by rw [f_Opd_nextByte]) d_Opd_nextByte_42
set_option maxHeartbeats 4000000 in
set_option maxRecDepth 100000 in
theorem c_Opd_isMode (l : Launch) (D : va_G) (cB cI : ClassId) (a : Nat → Nat) (bz : Nat) (ha : ap a 8) (S : Sc) (x0 : Int32) : MI l y_Opd_isMode b_Opd_isMode 1 (some .boolean) rm_Opd_isMode [.int x0] D cB cI (wdC cB cI a) (ow a 8) bz S (f_Opd_isMode x0, S) := by
  refine met_in R_Opd (by decide) rfl (Nat.le_of_ble_eq_true rfl) (wdC_D ha cB cI) ?_
  intro p e s m below meth c ls X hr hk hl hP hS
  have hx := X.1.1
  have hb := X.1.2.1
  have hown := X.1.2.2.2.1
  have hts := X.1.2.2.2.2
  have hl : lv_has ls 1 [(0, .int x0)] := hl
  refine lv_iload_n hx hb d_Opd_isMode_0 rfl (lv_at hl 0 rfl) ?_
  refine lv_bipush (v := (18 : Int32)) hx hb d_Opd_isMode_1 (by decide) ?_
  refine lv_icmp_eq (tgt := 22) hx hb d_Opd_isMode_3 rfl (fun h1 => ?_) (fun h1 => ?_)
  ·
    refine lv_iconst (v := (1 : Int32)) hx hb d_Opd_isMode_22 (by decide) ?_
    refine lv_goto (tgt := 27) hx hb d_Opd_isMode_23 rfl ?_
    exact rt_z X hr hk hP hS (by decide) (by rw [f_Opd_isMode, if_pos h1]) d_Opd_isMode_27
  ·
    refine lv_iload_n hx hb d_Opd_isMode_6 rfl (lv_at hl 0 rfl) ?_
    refine lv_iconst (v := (1 : Int32)) hx hb d_Opd_isMode_7 (by decide) ?_
    refine lv_iand hx hb d_Opd_isMode_8 ?_
    refine lv_iconst (v := (1 : Int32)) hx hb d_Opd_isMode_9 (by decide) ?_
    refine lv_icmp_ne (tgt := 26) hx hb d_Opd_isMode_10 rfl (fun h2 => ?_) (fun h2 => ?_)
    ·
      refine lv_iconst (v := (0 : Int32)) hx hb d_Opd_isMode_26 (by decide) ?_
      exact rt_z X hr hk hP hS (by decide) (by rw [f_Opd_isMode, if_neg h1, if_neg h2]) d_Opd_isMode_27
    ·
      refine lv_iload_n hx hb d_Opd_isMode_13 rfl (lv_at hl 0 rfl) ?_
      refine lv_bipush (v := (15 : Int32)) hx hb d_Opd_isMode_14 (by decide) ?_
      refine lv_iand hx hb d_Opd_isMode_16 ?_
      refine lv_bipush (v := (11 : Int32)) hx hb d_Opd_isMode_17 (by decide) ?_
      refine lv_icmp_eq (tgt := 26) hx hb d_Opd_isMode_19 rfl (fun h3 => ?_) (fun h3 => ?_)
      ·
        refine lv_iconst (v := (0 : Int32)) hx hb d_Opd_isMode_26 (by decide) ?_
        exact rt_z X hr hk hP hS (by decide) (by rw [f_Opd_isMode, if_neg h1, if_pos h2, if_pos h3]) d_Opd_isMode_27
      ·
        refine lv_iconst (v := (1 : Int32)) hx hb d_Opd_isMode_22 (by decide) ?_
        refine lv_goto (tgt := 27) hx hb d_Opd_isMode_23 rfl ?_
        exact rt_z X hr hk hP hS (by decide) (by rw [f_Opd_isMode, if_neg h1, if_pos h2, if_neg h3]) d_Opd_isMode_27
set_option maxHeartbeats 4000000 in
set_option maxRecDepth 100000 in
theorem c_Opd_direct (l : Launch) (D : va_G) (cB cI : ClassId) (a : Nat → Nat) (bz : Nat) (ha : ap a 8) (S : Sc) (x1 : Int32) : MI l y_Opd_direct b_Opd_direct 2 (some .int) rm_Opd_direct [.ref (a 4), .int x1] D cB cI (wdC cB cI a) (ow a 8) bz S (f_Opd_direct S x1) := by
  refine met_in R_Opd (by decide) rfl (Nat.le_of_ble_eq_true rfl) (wdC_D ha cB cI) ?_
  intro p e s m below meth c ls X hr hk hl hP hS
  have hx := X.1.1
  have hb := X.1.2.1
  have hown := X.1.2.2.2.1
  have hts := X.1.2.2.2.2
  have hl : lv_has ls 2 [(0, .ref (a 4)), (1, .int x1)] := hl
  refine lv_aload_n hx hb d_Opd_direct_0 rfl (lv_at hl 0 rfl) ?_
  refine gt_Opd X hP 1 (by decide) (v := .ref (a 2)) q_175 rfl d_Opd_direct_1 ?_
  refine gt_Reg X hP 4 (by decide) (v := .int (S.1 4)) q_125 rfl d_Opd_direct_4 ?_
  refine lv_aload_n hx hb d_Opd_direct_7 rfl (lv_at hl 0 rfl) ?_
  refine kv_vs (rest := [.int (S.1 4)]) X hP hS (c_Opd_nextByte l D cB cI a bz ha S) (kw_Opd_nextByte hts q_358 ⟨Nat.le_of_ble_eq_true rfl, Nat.le_of_ble_eq_true rfl⟩) 4 rfl rfl rfl hl.1 rfl (lv_room (Nat.le_of_ble_eq_true rfl)) d_Opd_direct_8 (fun r1 S2 H locs e3 hP hS => ?_)
  refine lv_iadd hx hb d_Opd_direct_11 ?_
  refine lv_iload_n hx hb d_Opd_direct_12 rfl (lv_at hl 1 rfl) ?_
  refine lv_iadd hx hb d_Opd_direct_13 ?_
  refine ks_v (rest := []) X hP hS (c_Bus_bank0Place l D cB cI a bz ha S2 (((S.1 4) + r1) + x1)) (kw_Bus_bank0Place hts q_359 ⟨Nat.le_of_ble_eq_true rfl, Nat.le_of_ble_eq_true rfl⟩) rfl hl.1 rfl (lv_room (Nat.le_of_ble_eq_true rfl)) d_Opd_direct_14 (fun H locs hP hS => ?_)
  exact rt_vs X hr hk hP hS (by rw [f_Opd_direct, bn_eq e3]) d_Opd_direct_17
set_option maxHeartbeats 4000000 in
set_option maxRecDepth 100000 in
theorem c_Opd_nextWord (l : Launch) (D : va_G) (cB cI : ClassId) (a : Nat → Nat) (bz : Nat) (ha : ap a 8) (S : Sc) : MI l y_Opd_nextWord b_Opd_nextWord 2 (some .int) rm_Opd_nextWord [.ref (a 4)] D cB cI (wdC cB cI a) (ow a 8) bz S (f_Opd_nextWord S) := by
  refine met_in R_Opd (by decide) rfl (Nat.le_of_ble_eq_true rfl) (wdC_D ha cB cI) ?_
  intro p e s m below meth c ls X hr hk hl hP hS
  have hx := X.1.1
  have hb := X.1.2.1
  have hown := X.1.2.2.2.1
  have hts := X.1.2.2.2.2
  have hl : lv_has ls 2 [(0, .ref (a 4))] := hl
  refine lv_aload_n hx hb d_Opd_nextWord_0 rfl (lv_at hl 0 rfl) ?_
  refine kv_vs (rest := []) X hP hS (c_Opd_nextByte l D cB cI a bz ha S) (kw_Opd_nextByte hts q_358 ⟨Nat.le_of_ble_eq_true rfl, Nat.le_of_ble_eq_true rfl⟩) 4 rfl rfl rfl hl.1 rfl (lv_room (Nat.le_of_ble_eq_true rfl)) d_Opd_nextWord_1 (fun r1 S2 H locs e3 hP hS => ?_)
  refine lv_istore_n hx hb d_Opd_nextWord_4 rfl hl (Nat.le_of_ble_eq_true rfl) rfl (fun ls hl => ?_)
  have hl : lv_has ls 2 [(1, .int (r1)), (0, .ref (a 4))] := hl
  refine lv_iload_n hx hb d_Opd_nextWord_5 rfl (lv_at hl 0 rfl) ?_
  refine lv_aload_n hx hb d_Opd_nextWord_6 rfl (lv_at hl 1 rfl) ?_
  refine kv_vs (rest := [.int (r1)]) X hP hS (c_Opd_nextByte l D cB cI a bz ha S2) (kw_Opd_nextByte hts q_358 ⟨Nat.le_of_ble_eq_true rfl, Nat.le_of_ble_eq_true rfl⟩) 4 rfl rfl rfl hl.1 rfl (lv_room (Nat.le_of_ble_eq_true rfl)) d_Opd_nextWord_7 (fun r4 S5 H locs e6 hP hS => ?_)
  refine lv_bipush (v := (8 : Int32)) hx hb d_Opd_nextWord_10 (by decide) ?_
  refine lv_ishl hx hb d_Opd_nextWord_12 ?_
  refine lv_ior hx hb d_Opd_nextWord_13 ?_
  exact rt_vs X hr hk hP hS (by rw [f_Opd_nextWord, bn_eq e3, bn_eq e6]) d_Opd_nextWord_14
set_option maxHeartbeats 4000000 in
set_option maxRecDepth 100000 in
theorem c_Opd_inDataBank (l : Launch) (D : va_G) (cB cI : ClassId) (a : Nat → Nat) (bz : Nat) (ha : ap a 8) (S : Sc) (x1 x2 : Int32) : MI l y_Opd_inDataBank b_Opd_inDataBank 3 (some .int) rm_Opd_inDataBank [.ref (a 4), .int x1, .int x2] D cB cI (wdC cB cI a) (ow a 8) bz S (f_Opd_inDataBank S x1 x2, S) := by
  refine met_in R_Opd (by decide) rfl (Nat.le_of_ble_eq_true rfl) (wdC_D ha cB cI) ?_
  intro p e s m below meth c ls X hr hk hl hP hS
  have hx := X.1.1
  have hb := X.1.2.1
  have hown := X.1.2.2.2.1
  have hts := X.1.2.2.2.2
  have hl : lv_has ls 3 [(0, .ref (a 4)), (1, .int x1), (2, .int x2)] := hl
  refine lv_aload_n hx hb d_Opd_inDataBank_0 rfl (lv_at hl 0 rfl) ?_
  refine gt_Opd X hP 1 (by decide) (v := .ref (a 2)) q_175 rfl d_Opd_inDataBank_1 ?_
  refine gt_Reg X hP 5 (by decide) (v := .int (S.1 5)) q_129 rfl d_Opd_inDataBank_4 ?_
  refine lv_bipush (v := (16 : Int32)) hx hb d_Opd_inDataBank_7 (by decide) ?_
  refine lv_ishl hx hb d_Opd_inDataBank_9 ?_
  refine lv_iload_n hx hb d_Opd_inDataBank_10 rfl (lv_at hl 1 rfl) ?_
  refine lv_iadd hx hb d_Opd_inDataBank_11 ?_
  refine lv_iload_n hx hb d_Opd_inDataBank_12 rfl (lv_at hl 2 rfl) ?_
  refine lv_iadd hx hb d_Opd_inDataBank_13 ?_
  refine ks_v (rest := []) X hP hS (c_Bus_longPlace l D cB cI a bz ha S ((((S.1 5) <<< ((16 : Int32) &&& 31)) + x1) + x2)) (kw_Bus_longPlace hts q_368 ⟨Nat.le_of_ble_eq_true rfl, Nat.le_of_ble_eq_true rfl⟩) rfl hl.1 rfl (lv_room (Nat.le_of_ble_eq_true rfl)) d_Opd_inDataBank_14 (fun H locs hP hS => ?_)
  exact rt_vs X hr hk hP hS (by rw [f_Opd_inDataBank]) d_Opd_inDataBank_17
set_option maxHeartbeats 4000000 in
set_option maxRecDepth 100000 in
theorem c_Opd_nextLong (l : Launch) (D : va_G) (cB cI : ClassId) (a : Nat → Nat) (bz : Nat) (ha : ap a 8) (S : Sc) : MI l y_Opd_nextLong b_Opd_nextLong 3 (some .int) rm_Opd_nextLong [.ref (a 4)] D cB cI (wdC cB cI a) (ow a 8) bz S (f_Opd_nextLong S) := by
  refine met_in R_Opd (by decide) rfl (Nat.le_of_ble_eq_true rfl) (wdC_D ha cB cI) ?_
  intro p e s m below meth c ls X hr hk hl hP hS
  have hx := X.1.1
  have hb := X.1.2.1
  have hown := X.1.2.2.2.1
  have hts := X.1.2.2.2.2
  have hl : lv_has ls 3 [(0, .ref (a 4))] := hl
  refine lv_aload_n hx hb d_Opd_nextLong_0 rfl (lv_at hl 0 rfl) ?_
  refine kv_vs (rest := []) X hP hS (c_Opd_nextByte l D cB cI a bz ha S) (kw_Opd_nextByte hts q_358 ⟨Nat.le_of_ble_eq_true rfl, Nat.le_of_ble_eq_true rfl⟩) 4 rfl rfl rfl hl.1 rfl (lv_room (Nat.le_of_ble_eq_true rfl)) d_Opd_nextLong_1 (fun r1 S2 H locs e3 hP hS => ?_)
  refine lv_istore_n hx hb d_Opd_nextLong_4 rfl hl (Nat.le_of_ble_eq_true rfl) rfl (fun ls hl => ?_)
  have hl : lv_has ls 3 [(1, .int (r1)), (0, .ref (a 4))] := hl
  refine lv_aload_n hx hb d_Opd_nextLong_5 rfl (lv_at hl 1 rfl) ?_
  refine kv_vs (rest := []) X hP hS (c_Opd_nextByte l D cB cI a bz ha S2) (kw_Opd_nextByte hts q_358 ⟨Nat.le_of_ble_eq_true rfl, Nat.le_of_ble_eq_true rfl⟩) 4 rfl rfl rfl hl.1 rfl (lv_room (Nat.le_of_ble_eq_true rfl)) d_Opd_nextLong_6 (fun r4 S5 H locs e6 hP hS => ?_)
  refine lv_istore_n hx hb d_Opd_nextLong_9 rfl hl (Nat.le_of_ble_eq_true rfl) rfl (fun ls hl => ?_)
  have hl : lv_has ls 3 [(2, .int (r4)), (1, .int (r1)), (0, .ref (a 4))] := hl
  refine lv_iload_n hx hb d_Opd_nextLong_10 rfl (lv_at hl 1 rfl) ?_
  refine lv_iload_n hx hb d_Opd_nextLong_11 rfl (lv_at hl 0 rfl) ?_
  refine lv_bipush (v := (8 : Int32)) hx hb d_Opd_nextLong_12 (by decide) ?_
  refine lv_ishl hx hb d_Opd_nextLong_14 ?_
  refine lv_ior hx hb d_Opd_nextLong_15 ?_
  refine lv_aload_n hx hb d_Opd_nextLong_16 rfl (lv_at hl 2 rfl) ?_
  refine kv_vs (rest := [.int ((r1 ||| (r4 <<< ((8 : Int32) &&& 31))))]) X hP hS (c_Opd_nextByte l D cB cI a bz ha S5) (kw_Opd_nextByte hts q_358 ⟨Nat.le_of_ble_eq_true rfl, Nat.le_of_ble_eq_true rfl⟩) 4 rfl rfl rfl hl.1 rfl (lv_room (Nat.le_of_ble_eq_true rfl)) d_Opd_nextLong_17 (fun r7 S8 H locs e9 hP hS => ?_)
  refine lv_bipush (v := (16 : Int32)) hx hb d_Opd_nextLong_20 (by decide) ?_
  refine lv_ishl hx hb d_Opd_nextLong_22 ?_
  refine lv_ior hx hb d_Opd_nextLong_23 ?_
  exact rt_vs X hr hk hP hS (by rw [f_Opd_nextLong, bn_eq e3, bn_eq e6, bn_eq e9]) d_Opd_nextLong_24
set_option maxHeartbeats 4000000 in
set_option maxRecDepth 100000 in
theorem c_Opd_onStack (l : Launch) (D : va_G) (cB cI : ClassId) (a : Nat → Nat) (bz : Nat) (ha : ap a 8) (S : Sc) : MI l y_Opd_onStack b_Opd_onStack 1 (some .int) rm_Opd_onStack [.ref (a 4)] D cB cI (wdC cB cI a) (ow a 8) bz S (f_Opd_onStack S) := by
  refine met_in R_Opd (by decide) rfl (Nat.le_of_ble_eq_true rfl) (wdC_D ha cB cI) ?_
  intro p e s m below meth c ls X hr hk hl hP hS
  have hx := X.1.1
  have hb := X.1.2.1
  have hown := X.1.2.2.2.1
  have hts := X.1.2.2.2.2
  have hl : lv_has ls 1 [(0, .ref (a 4))] := hl
  refine lv_aload_n hx hb d_Opd_onStack_0 rfl (lv_at hl 0 rfl) ?_
  refine gt_Opd X hP 1 (by decide) (v := .ref (a 2)) q_175 rfl d_Opd_onStack_1 ?_
  refine gt_Reg X hP 3 (by decide) (v := .int (S.1 3)) q_122 rfl d_Opd_onStack_4 ?_
  refine lv_aload_n hx hb d_Opd_onStack_7 rfl (lv_at hl 0 rfl) ?_
  refine kv_vs (rest := [.int (S.1 3)]) X hP hS (c_Opd_nextByte l D cB cI a bz ha S) (kw_Opd_nextByte hts q_358 ⟨Nat.le_of_ble_eq_true rfl, Nat.le_of_ble_eq_true rfl⟩) 4 rfl rfl rfl hl.1 rfl (lv_room (Nat.le_of_ble_eq_true rfl)) d_Opd_onStack_8 (fun r1 S2 H locs e3 hP hS => ?_)
  refine lv_iadd hx hb d_Opd_onStack_11 ?_
  refine ks_v (rest := []) X hP hS (c_Bus_bank0Place l D cB cI a bz ha S2 ((S.1 3) + r1)) (kw_Bus_bank0Place hts q_359 ⟨Nat.le_of_ble_eq_true rfl, Nat.le_of_ble_eq_true rfl⟩) rfl hl.1 rfl (lv_room (Nat.le_of_ble_eq_true rfl)) d_Opd_onStack_12 (fun H locs hP hS => ?_)
  exact rt_vs X hr hk hP hS (by rw [f_Opd_onStack, bn_eq e3]) d_Opd_onStack_15
set_option maxHeartbeats 4000000 in
set_option maxRecDepth 100000 in
theorem c_Opd_place (l : Launch) (D : va_G) (cB cI : ClassId) (a : Nat → Nat) (bz : Nat) (ha : ap a 8) (S : Sc) (x1 : Int32) : MI l y_Opd_place b_Opd_place 2 (some .int) rm_Opd_place [.ref (a 4), .int x1] D cB cI (wdC cB cI a) (ow a 8) bz S (f_Opd_place S x1) := by
  refine met_in R_Opd (by decide) rfl (Nat.le_of_ble_eq_true rfl) (wdC_D ha cB cI) ?_
  intro p e s m below meth c ls X hr hk hl hP hS
  have hx := X.1.1
  have hb := X.1.2.1
  have hown := X.1.2.2.2.1
  have hts := X.1.2.2.2.2
  have hl : lv_has ls 2 [(0, .ref (a 4)), (1, .int x1)] := hl
  refine lv_iload_n hx hb d_Opd_place_0 rfl (lv_at hl 1 rfl) ?_
  by_cases h1 : x1 = (1 : Int32)
  ·
    refine sw_t (k := (1 : Int32)) (tgt := 255) hx hb d_Opd_place_1 h1 rfl ?_
    refine lv_aload_n hx hb d_Opd_place_255 rfl (lv_at hl 0 rfl) ?_
    refine lv_aload_n hx hb d_Opd_place_256 rfl (lv_at hl 0 rfl) ?_
    refine gt_Opd X hP 0 (by decide) (v := .ref (a 1)) q_174 rfl d_Opd_place_257 ?_
    refine lv_aload_n hx hb d_Opd_place_260 rfl (lv_at hl 0 rfl) ?_
    refine lv_aload_n hx hb d_Opd_place_261 rfl (lv_at hl 0 rfl) ?_
    refine gt_Opd X hP 1 (by decide) (v := .ref (a 2)) q_175 rfl d_Opd_place_262 ?_
    refine gt_Reg X hP 1 (by decide) (v := .int (S.1 1)) q_112 rfl d_Opd_place_265 ?_
    refine kv_vs (rest := [.ref (a 1), .ref (a 4)]) X hP hS (c_Opd_direct l D cB cI a bz ha S (S.1 1)) (kw_Opd_direct hts q_354 ⟨Nat.le_of_ble_eq_true rfl, Nat.le_of_ble_eq_true rfl⟩) 4 rfl rfl rfl hl.1 rfl (lv_room (Nat.le_of_ble_eq_true rfl)) d_Opd_place_268 (fun r2 S3 H locs e4 hP hS => ?_)
    refine kv_vs (rest := [.ref (a 4)]) X hP hS (c_Bus_readWord l D cB cI a bz ha S3 r2) (kw_Bus_readWord hts q_373 ⟨Nat.le_of_ble_eq_true rfl, Nat.le_of_ble_eq_true rfl⟩) 1 rfl rfl rfl hl.1 rfl (lv_room (Nat.le_of_ble_eq_true rfl)) d_Opd_place_271 (fun r5 S6 H locs e7 hP hS => ?_)
    refine lv_iconst (v := (0 : Int32)) hx hb d_Opd_place_274 (by decide) ?_
    refine kv_v (rest := []) X hP hS (c_Opd_inDataBank l D cB cI a bz ha S6 r5 (0 : Int32)) (kw_Opd_inDataBank hts q_364 ⟨Nat.le_of_ble_eq_true rfl, Nat.le_of_ble_eq_true rfl⟩) 4 rfl rfl rfl hl.1 rfl (lv_room (Nat.le_of_ble_eq_true rfl)) d_Opd_place_275 (fun H locs hP hS => ?_)
    refine lv_goto (tgt := 381) hx hb d_Opd_place_278 rfl ?_
    exact rt_vs X hr hk hP hS (by rw [f_Opd_place, if_pos h1, bn_eq e4, bn_eq e7]) d_Opd_place_381
  ·
    by_cases h8 : x1 = (2 : Int32)
    ·
      refine sw_t (k := (2 : Int32)) (tgt := 380) hx hb d_Opd_place_1 h8 rfl ?_
      refine lv_iconst (v := (0 : Int32)) hx hb d_Opd_place_380 (by decide) ?_
      exact rt_vs X hr hk hP hS (by rw [f_Opd_place, if_neg h1, if_pos h8]) d_Opd_place_381
    ·
      by_cases h9 : x1 = (3 : Int32)
      ·
        refine sw_t (k := (3 : Int32)) (tgt := 348) hx hb d_Opd_place_1 h9 rfl ?_
        refine lv_aload_n hx hb d_Opd_place_348 rfl (lv_at hl 0 rfl) ?_
        refine kv_vs (rest := []) X hP hS (c_Opd_onStack l D cB cI a bz ha S) (kw_Opd_onStack hts q_378 ⟨Nat.le_of_ble_eq_true rfl, Nat.le_of_ble_eq_true rfl⟩) 4 rfl rfl rfl hl.1 rfl (lv_room (Nat.le_of_ble_eq_true rfl)) d_Opd_place_349 (fun r10 S11 H locs e12 hP hS => ?_)
        refine lv_goto (tgt := 381) hx hb d_Opd_place_352 rfl ?_
        exact rt_vs X hr hk hP hS (by rw [f_Opd_place, if_neg h1, if_neg h8, if_pos h9, bn_eq e12]) d_Opd_place_381
      ·
        by_cases h13 : x1 = (4 : Int32)
        ·
          refine sw_t (k := (4 : Int32)) (tgt := 380) hx hb d_Opd_place_1 h13 rfl ?_
          refine lv_iconst (v := (0 : Int32)) hx hb d_Opd_place_380 (by decide) ?_
          exact rt_vs X hr hk hP hS (by rw [f_Opd_place, if_neg h1, if_neg h8, if_neg h9, if_pos h13]) d_Opd_place_381
        ·
          by_cases h14 : x1 = (5 : Int32)
          ·
            refine sw_t (k := (5 : Int32)) (tgt := 140) hx hb d_Opd_place_1 h14 rfl ?_
            refine lv_aload_n hx hb d_Opd_place_140 rfl (lv_at hl 0 rfl) ?_
            refine lv_iconst (v := (0 : Int32)) hx hb d_Opd_place_141 (by decide) ?_
            refine kv_vs (rest := []) X hP hS (c_Opd_direct l D cB cI a bz ha S (0 : Int32)) (kw_Opd_direct hts q_354 ⟨Nat.le_of_ble_eq_true rfl, Nat.le_of_ble_eq_true rfl⟩) 4 rfl rfl rfl hl.1 rfl (lv_room (Nat.le_of_ble_eq_true rfl)) d_Opd_place_142 (fun r15 S16 H locs e17 hP hS => ?_)
            refine lv_goto (tgt := 381) hx hb d_Opd_place_145 rfl ?_
            exact rt_vs X hr hk hP hS (by rw [f_Opd_place, if_neg h1, if_neg h8, if_neg h9, if_neg h13, if_pos h14, bn_eq e17]) d_Opd_place_381
          ·
            by_cases h18 : x1 = (6 : Int32)
            ·
              refine sw_t (k := (6 : Int32)) (tgt := 380) hx hb d_Opd_place_1 h18 rfl ?_
              refine lv_iconst (v := (0 : Int32)) hx hb d_Opd_place_380 (by decide) ?_
              exact rt_vs X hr hk hP hS (by rw [f_Opd_place, if_neg h1, if_neg h8, if_neg h9, if_neg h13, if_neg h14, if_pos h18]) d_Opd_place_381
            ·
              by_cases h19 : x1 = (7 : Int32)
              ·
                refine sw_t (k := (7 : Int32)) (tgt := 307) hx hb d_Opd_place_1 h19 rfl ?_
                refine lv_aload_n hx hb d_Opd_place_307 rfl (lv_at hl 0 rfl) ?_
                refine gt_Opd X hP 0 (by decide) (v := .ref (a 1)) q_174 rfl d_Opd_place_308 ?_
                refine lv_aload_n hx hb d_Opd_place_311 rfl (lv_at hl 0 rfl) ?_
                refine lv_iconst (v := (0 : Int32)) hx hb d_Opd_place_312 (by decide) ?_
                refine kv_vs (rest := [.ref (a 1)]) X hP hS (c_Opd_direct l D cB cI a bz ha S (0 : Int32)) (kw_Opd_direct hts q_354 ⟨Nat.le_of_ble_eq_true rfl, Nat.le_of_ble_eq_true rfl⟩) 4 rfl rfl rfl hl.1 rfl (lv_room (Nat.le_of_ble_eq_true rfl)) d_Opd_place_313 (fun r20 S21 H locs e22 hP hS => ?_)
                refine kv_vs (rest := []) X hP hS (c_Bus_readLong l D cB cI a bz ha S21 r20) (kw_Bus_readLong hts q_374 ⟨Nat.le_of_ble_eq_true rfl, Nat.le_of_ble_eq_true rfl⟩) 1 rfl rfl rfl hl.1 rfl (lv_room (Nat.le_of_ble_eq_true rfl)) d_Opd_place_316 (fun r23 S24 H locs e25 hP hS => ?_)
                refine lv_goto (tgt := 381) hx hb d_Opd_place_319 rfl ?_
                exact rt_vs X hr hk hP hS (by rw [f_Opd_place, if_neg h1, if_neg h8, if_neg h9, if_neg h13, if_neg h14, if_neg h18, if_pos h19, bn_eq e22, bn_eq e25]) d_Opd_place_381
              ·
                by_cases h26 : x1 = (8 : Int32)
                ·
                  refine sw_t (k := (8 : Int32)) (tgt := 380) hx hb d_Opd_place_1 h26 rfl ?_
                  refine lv_iconst (v := (0 : Int32)) hx hb d_Opd_place_380 (by decide) ?_
                  exact rt_vs X hr hk hP hS (by rw [f_Opd_place, if_neg h1, if_neg h8, if_neg h9, if_neg h13, if_neg h14, if_neg h18, if_neg h19, if_pos h26]) d_Opd_place_381
                ·
                  by_cases h27 : x1 = (9 : Int32)
                  ·
                    refine sw_t (k := (9 : Int32)) (tgt := 380) hx hb d_Opd_place_1 h27 rfl ?_
                    refine lv_iconst (v := (0 : Int32)) hx hb d_Opd_place_380 (by decide) ?_
                    exact rt_vs X hr hk hP hS (by rw [f_Opd_place, if_neg h1, if_neg h8, if_neg h9, if_neg h13, if_neg h14, if_neg h18, if_neg h19, if_neg h26, if_pos h27]) d_Opd_place_381
                  ·
                    by_cases h28 : x1 = (10 : Int32)
                    ·
                      refine sw_t (k := (10 : Int32)) (tgt := 380) hx hb d_Opd_place_1 h28 rfl ?_
                      refine lv_iconst (v := (0 : Int32)) hx hb d_Opd_place_380 (by decide) ?_
                      exact rt_vs X hr hk hP hS (by rw [f_Opd_place, if_neg h1, if_neg h8, if_neg h9, if_neg h13, if_neg h14, if_neg h18, if_neg h19, if_neg h26, if_neg h27, if_pos h28]) d_Opd_place_381
                    ·
                      by_cases h29 : x1 = (11 : Int32)
                      ·
                        refine sw_t (k := (11 : Int32)) (tgt := 380) hx hb d_Opd_place_1 h29 rfl ?_
                        refine lv_iconst (v := (0 : Int32)) hx hb d_Opd_place_380 (by decide) ?_
                        exact rt_vs X hr hk hP hS (by rw [f_Opd_place, if_neg h1, if_neg h8, if_neg h9, if_neg h13, if_neg h14, if_neg h18, if_neg h19, if_neg h26, if_neg h27, if_neg h28, if_pos h29]) d_Opd_place_381
                      ·
                        by_cases h30 : x1 = (12 : Int32)
                        ·
                          refine sw_t (k := (12 : Int32)) (tgt := 380) hx hb d_Opd_place_1 h30 rfl ?_
                          refine lv_iconst (v := (0 : Int32)) hx hb d_Opd_place_380 (by decide) ?_
                          exact rt_vs X hr hk hP hS (by rw [f_Opd_place, if_neg h1, if_neg h8, if_neg h9, if_neg h13, if_neg h14, if_neg h18, if_neg h19, if_neg h26, if_neg h27, if_neg h28, if_neg h29, if_pos h30]) d_Opd_place_381
                        ·
                          by_cases h31 : x1 = (13 : Int32)
                          ·
                            refine sw_t (k := (13 : Int32)) (tgt := 162) hx hb d_Opd_place_1 h31 rfl ?_
                            refine lv_aload_n hx hb d_Opd_place_162 rfl (lv_at hl 0 rfl) ?_
                            refine lv_aload_n hx hb d_Opd_place_163 rfl (lv_at hl 0 rfl) ?_
                            refine kv_vs (rest := [.ref (a 4)]) X hP hS (c_Opd_nextWord l D cB cI a bz ha S) (kw_Opd_nextWord hts q_360 ⟨Nat.le_of_ble_eq_true rfl, Nat.le_of_ble_eq_true rfl⟩) 4 rfl rfl rfl hl.1 rfl (lv_room (Nat.le_of_ble_eq_true rfl)) d_Opd_place_164 (fun r32 S33 H locs e34 hP hS => ?_)
                            refine lv_iconst (v := (0 : Int32)) hx hb d_Opd_place_167 (by decide) ?_
                            refine kv_v (rest := []) X hP hS (c_Opd_inDataBank l D cB cI a bz ha S33 r32 (0 : Int32)) (kw_Opd_inDataBank hts q_364 ⟨Nat.le_of_ble_eq_true rfl, Nat.le_of_ble_eq_true rfl⟩) 4 rfl rfl rfl hl.1 rfl (lv_room (Nat.le_of_ble_eq_true rfl)) d_Opd_place_168 (fun H locs hP hS => ?_)
                            refine lv_goto (tgt := 381) hx hb d_Opd_place_171 rfl ?_
                            exact rt_vs X hr hk hP hS (by rw [f_Opd_place, if_neg h1, if_neg h8, if_neg h9, if_neg h13, if_neg h14, if_neg h18, if_neg h19, if_neg h26, if_neg h27, if_neg h28, if_neg h29, if_neg h30, if_pos h31, bn_eq e34]) d_Opd_place_381
                          ·
                            by_cases h35 : x1 = (14 : Int32)
                            ·
                              refine sw_t (k := (14 : Int32)) (tgt := 380) hx hb d_Opd_place_1 h35 rfl ?_
                              refine lv_iconst (v := (0 : Int32)) hx hb d_Opd_place_380 (by decide) ?_
                              exact rt_vs X hr hk hP hS (by rw [f_Opd_place, if_neg h1, if_neg h8, if_neg h9, if_neg h13, if_neg h14, if_neg h18, if_neg h19, if_neg h26, if_neg h27, if_neg h28, if_neg h29, if_neg h30, if_neg h31, if_pos h35]) d_Opd_place_381
                            ·
                              by_cases h36 : x1 = (15 : Int32)
                              ·
                                refine sw_t (k := (15 : Int32)) (tgt := 210) hx hb d_Opd_place_1 h36 rfl ?_
                                refine lv_aload_n hx hb d_Opd_place_210 rfl (lv_at hl 0 rfl) ?_
                                refine kv_vs (rest := []) X hP hS (c_Opd_nextLong l D cB cI a bz ha S) (kw_Opd_nextLong hts q_369 ⟨Nat.le_of_ble_eq_true rfl, Nat.le_of_ble_eq_true rfl⟩) 4 rfl rfl rfl hl.1 rfl (lv_room (Nat.le_of_ble_eq_true rfl)) d_Opd_place_211 (fun r37 S38 H locs e39 hP hS => ?_)
                                refine lv_goto (tgt := 381) hx hb d_Opd_place_214 rfl ?_
                                exact rt_vs X hr hk hP hS (by rw [f_Opd_place, if_neg h1, if_neg h8, if_neg h9, if_neg h13, if_neg h14, if_neg h18, if_neg h19, if_neg h26, if_neg h27, if_neg h28, if_neg h29, if_neg h30, if_neg h31, if_neg h35, if_pos h36, bn_eq e39]) d_Opd_place_381
                              ·
                                by_cases h40 : x1 = (16 : Int32)
                                ·
                                  refine sw_t (k := (16 : Int32)) (tgt := 380) hx hb d_Opd_place_1 h40 rfl ?_
                                  refine lv_iconst (v := (0 : Int32)) hx hb d_Opd_place_380 (by decide) ?_
                                  exact rt_vs X hr hk hP hS (by rw [f_Opd_place, if_neg h1, if_neg h8, if_neg h9, if_neg h13, if_neg h14, if_neg h18, if_neg h19, if_neg h26, if_neg h27, if_neg h28, if_neg h29, if_neg h30, if_neg h31, if_neg h35, if_neg h36, if_pos h40]) d_Opd_place_381
                                ·
                                  by_cases h41 : x1 = (17 : Int32)
                                  ·
                                    refine sw_t (k := (17 : Int32)) (tgt := 281) hx hb d_Opd_place_1 h41 rfl ?_
                                    refine lv_aload_n hx hb d_Opd_place_281 rfl (lv_at hl 0 rfl) ?_
                                    refine lv_aload_n hx hb d_Opd_place_282 rfl (lv_at hl 0 rfl) ?_
                                    refine gt_Opd X hP 0 (by decide) (v := .ref (a 1)) q_174 rfl d_Opd_place_283 ?_
                                    refine lv_aload_n hx hb d_Opd_place_286 rfl (lv_at hl 0 rfl) ?_
                                    refine lv_iconst (v := (0 : Int32)) hx hb d_Opd_place_287 (by decide) ?_
                                    refine kv_vs (rest := [.ref (a 1), .ref (a 4)]) X hP hS (c_Opd_direct l D cB cI a bz ha S (0 : Int32)) (kw_Opd_direct hts q_354 ⟨Nat.le_of_ble_eq_true rfl, Nat.le_of_ble_eq_true rfl⟩) 4 rfl rfl rfl hl.1 rfl (lv_room (Nat.le_of_ble_eq_true rfl)) d_Opd_place_288 (fun r42 S43 H locs e44 hP hS => ?_)
                                    refine kv_vs (rest := [.ref (a 4)]) X hP hS (c_Bus_readWord l D cB cI a bz ha S43 r42) (kw_Bus_readWord hts q_373 ⟨Nat.le_of_ble_eq_true rfl, Nat.le_of_ble_eq_true rfl⟩) 1 rfl rfl rfl hl.1 rfl (lv_room (Nat.le_of_ble_eq_true rfl)) d_Opd_place_291 (fun r45 S46 H locs e47 hP hS => ?_)
                                    refine lv_aload_n hx hb d_Opd_place_294 rfl (lv_at hl 0 rfl) ?_
                                    refine gt_Opd X hP 1 (by decide) (v := .ref (a 2)) q_175 rfl d_Opd_place_295 ?_
                                    refine gt_Reg X hP 2 (by decide) (v := .int (S46.1 2)) q_116 rfl d_Opd_place_298 ?_
                                    refine kv_v (rest := []) X hP hS (c_Opd_inDataBank l D cB cI a bz ha S46 r45 (S46.1 2)) (kw_Opd_inDataBank hts q_364 ⟨Nat.le_of_ble_eq_true rfl, Nat.le_of_ble_eq_true rfl⟩) 4 rfl rfl rfl hl.1 rfl (lv_room (Nat.le_of_ble_eq_true rfl)) d_Opd_place_301 (fun H locs hP hS => ?_)
                                    refine lv_goto (tgt := 381) hx hb d_Opd_place_304 rfl ?_
                                    exact rt_vs X hr hk hP hS (by rw [f_Opd_place, if_neg h1, if_neg h8, if_neg h9, if_neg h13, if_neg h14, if_neg h18, if_neg h19, if_neg h26, if_neg h27, if_neg h28, if_neg h29, if_neg h30, if_neg h31, if_neg h35, if_neg h36, if_neg h40, if_pos h41, bn_eq e44, bn_eq e47]) d_Opd_place_381
                                  ·
                                    by_cases h48 : x1 = (18 : Int32)
                                    ·
                                      refine sw_t (k := (18 : Int32)) (tgt := 235) hx hb d_Opd_place_1 h48 rfl ?_
                                      refine lv_aload_n hx hb d_Opd_place_235 rfl (lv_at hl 0 rfl) ?_
                                      refine lv_aload_n hx hb d_Opd_place_236 rfl (lv_at hl 0 rfl) ?_
                                      refine gt_Opd X hP 0 (by decide) (v := .ref (a 1)) q_174 rfl d_Opd_place_237 ?_
                                      refine lv_aload_n hx hb d_Opd_place_240 rfl (lv_at hl 0 rfl) ?_
                                      refine lv_iconst (v := (0 : Int32)) hx hb d_Opd_place_241 (by decide) ?_
                                      refine kv_vs (rest := [.ref (a 1), .ref (a 4)]) X hP hS (c_Opd_direct l D cB cI a bz ha S (0 : Int32)) (kw_Opd_direct hts q_354 ⟨Nat.le_of_ble_eq_true rfl, Nat.le_of_ble_eq_true rfl⟩) 4 rfl rfl rfl hl.1 rfl (lv_room (Nat.le_of_ble_eq_true rfl)) d_Opd_place_242 (fun r49 S50 H locs e51 hP hS => ?_)
                                      refine kv_vs (rest := [.ref (a 4)]) X hP hS (c_Bus_readWord l D cB cI a bz ha S50 r49) (kw_Bus_readWord hts q_373 ⟨Nat.le_of_ble_eq_true rfl, Nat.le_of_ble_eq_true rfl⟩) 1 rfl rfl rfl hl.1 rfl (lv_room (Nat.le_of_ble_eq_true rfl)) d_Opd_place_245 (fun r52 S53 H locs e54 hP hS => ?_)
                                      refine lv_iconst (v := (0 : Int32)) hx hb d_Opd_place_248 (by decide) ?_
                                      refine kv_v (rest := []) X hP hS (c_Opd_inDataBank l D cB cI a bz ha S53 r52 (0 : Int32)) (kw_Opd_inDataBank hts q_364 ⟨Nat.le_of_ble_eq_true rfl, Nat.le_of_ble_eq_true rfl⟩) 4 rfl rfl rfl hl.1 rfl (lv_room (Nat.le_of_ble_eq_true rfl)) d_Opd_place_249 (fun H locs hP hS => ?_)
                                      refine lv_goto (tgt := 381) hx hb d_Opd_place_252 rfl ?_
                                      exact rt_vs X hr hk hP hS (by rw [f_Opd_place, if_neg h1, if_neg h8, if_neg h9, if_neg h13, if_neg h14, if_neg h18, if_neg h19, if_neg h26, if_neg h27, if_neg h28, if_neg h29, if_neg h30, if_neg h31, if_neg h35, if_neg h36, if_neg h40, if_neg h41, if_pos h48, bn_eq e51, bn_eq e54]) d_Opd_place_381
                                    ·
                                      by_cases h55 : x1 = (19 : Int32)
                                      ·
                                        refine sw_t (k := (19 : Int32)) (tgt := 355) hx hb d_Opd_place_1 h55 rfl ?_
                                        refine lv_aload_n hx hb d_Opd_place_355 rfl (lv_at hl 0 rfl) ?_
                                        refine lv_aload_n hx hb d_Opd_place_356 rfl (lv_at hl 0 rfl) ?_
                                        refine gt_Opd X hP 0 (by decide) (v := .ref (a 1)) q_174 rfl d_Opd_place_357 ?_
                                        refine lv_aload_n hx hb d_Opd_place_360 rfl (lv_at hl 0 rfl) ?_
                                        refine kv_vs (rest := [.ref (a 1), .ref (a 4)]) X hP hS (c_Opd_onStack l D cB cI a bz ha S) (kw_Opd_onStack hts q_378 ⟨Nat.le_of_ble_eq_true rfl, Nat.le_of_ble_eq_true rfl⟩) 4 rfl rfl rfl hl.1 rfl (lv_room (Nat.le_of_ble_eq_true rfl)) d_Opd_place_361 (fun r56 S57 H locs e58 hP hS => ?_)
                                        refine kv_vs (rest := [.ref (a 4)]) X hP hS (c_Bus_readWord l D cB cI a bz ha S57 r56) (kw_Bus_readWord hts q_373 ⟨Nat.le_of_ble_eq_true rfl, Nat.le_of_ble_eq_true rfl⟩) 1 rfl rfl rfl hl.1 rfl (lv_room (Nat.le_of_ble_eq_true rfl)) d_Opd_place_364 (fun r59 S60 H locs e61 hP hS => ?_)
                                        refine lv_aload_n hx hb d_Opd_place_367 rfl (lv_at hl 0 rfl) ?_
                                        refine gt_Opd X hP 1 (by decide) (v := .ref (a 2)) q_175 rfl d_Opd_place_368 ?_
                                        refine gt_Reg X hP 2 (by decide) (v := .int (S60.1 2)) q_116 rfl d_Opd_place_371 ?_
                                        refine kv_v (rest := []) X hP hS (c_Opd_inDataBank l D cB cI a bz ha S60 r59 (S60.1 2)) (kw_Opd_inDataBank hts q_364 ⟨Nat.le_of_ble_eq_true rfl, Nat.le_of_ble_eq_true rfl⟩) 4 rfl rfl rfl hl.1 rfl (lv_room (Nat.le_of_ble_eq_true rfl)) d_Opd_place_374 (fun H locs hP hS => ?_)
                                        refine lv_goto (tgt := 381) hx hb d_Opd_place_377 rfl ?_
                                        exact rt_vs X hr hk hP hS (by rw [f_Opd_place, if_neg h1, if_neg h8, if_neg h9, if_neg h13, if_neg h14, if_neg h18, if_neg h19, if_neg h26, if_neg h27, if_neg h28, if_neg h29, if_neg h30, if_neg h31, if_neg h35, if_neg h36, if_neg h40, if_neg h41, if_neg h48, if_pos h55, bn_eq e58, bn_eq e61]) d_Opd_place_381
                                      ·
                                        by_cases h62 : x1 = (20 : Int32)
                                        ·
                                          refine sw_t (k := (20 : Int32)) (tgt := 380) hx hb d_Opd_place_1 h62 rfl ?_
                                          refine lv_iconst (v := (0 : Int32)) hx hb d_Opd_place_380 (by decide) ?_
                                          exact rt_vs X hr hk hP hS (by rw [f_Opd_place, if_neg h1, if_neg h8, if_neg h9, if_neg h13, if_neg h14, if_neg h18, if_neg h19, if_neg h26, if_neg h27, if_neg h28, if_neg h29, if_neg h30, if_neg h31, if_neg h35, if_neg h36, if_neg h40, if_neg h41, if_neg h48, if_neg h55, if_pos h62]) d_Opd_place_381
                                        ·
                                          by_cases h63 : x1 = (21 : Int32)
                                          ·
                                            refine sw_t (k := (21 : Int32)) (tgt := 148) hx hb d_Opd_place_1 h63 rfl ?_
                                            refine lv_aload_n hx hb d_Opd_place_148 rfl (lv_at hl 0 rfl) ?_
                                            refine lv_aload_n hx hb d_Opd_place_149 rfl (lv_at hl 0 rfl) ?_
                                            refine gt_Opd X hP 1 (by decide) (v := .ref (a 2)) q_175 rfl d_Opd_place_150 ?_
                                            refine gt_Reg X hP 1 (by decide) (v := .int (S.1 1)) q_112 rfl d_Opd_place_153 ?_
                                            refine kv_vs (rest := []) X hP hS (c_Opd_direct l D cB cI a bz ha S (S.1 1)) (kw_Opd_direct hts q_354 ⟨Nat.le_of_ble_eq_true rfl, Nat.le_of_ble_eq_true rfl⟩) 4 rfl rfl rfl hl.1 rfl (lv_room (Nat.le_of_ble_eq_true rfl)) d_Opd_place_156 (fun r64 S65 H locs e66 hP hS => ?_)
                                            refine lv_goto (tgt := 381) hx hb d_Opd_place_159 rfl ?_
                                            exact rt_vs X hr hk hP hS (by rw [f_Opd_place, if_neg h1, if_neg h8, if_neg h9, if_neg h13, if_neg h14, if_neg h18, if_neg h19, if_neg h26, if_neg h27, if_neg h28, if_neg h29, if_neg h30, if_neg h31, if_neg h35, if_neg h36, if_neg h40, if_neg h41, if_neg h48, if_neg h55, if_neg h62, if_pos h63, bn_eq e66]) d_Opd_place_381
                                          ·
                                            by_cases h67 : x1 = (22 : Int32)
                                            ·
                                              refine sw_t (k := (22 : Int32)) (tgt := 380) hx hb d_Opd_place_1 h67 rfl ?_
                                              refine lv_iconst (v := (0 : Int32)) hx hb d_Opd_place_380 (by decide) ?_
                                              exact rt_vs X hr hk hP hS (by rw [f_Opd_place, if_neg h1, if_neg h8, if_neg h9, if_neg h13, if_neg h14, if_neg h18, if_neg h19, if_neg h26, if_neg h27, if_neg h28, if_neg h29, if_neg h30, if_neg h31, if_neg h35, if_neg h36, if_neg h40, if_neg h41, if_neg h48, if_neg h55, if_neg h62, if_neg h63, if_pos h67]) d_Opd_place_381
                                            ·
                                              by_cases h68 : x1 = (23 : Int32)
                                              ·
                                                refine sw_t (k := (23 : Int32)) (tgt := 322) hx hb d_Opd_place_1 h68 rfl ?_
                                                refine lv_aload_n hx hb d_Opd_place_322 rfl (lv_at hl 0 rfl) ?_
                                                refine gt_Opd X hP 0 (by decide) (v := .ref (a 1)) q_174 rfl d_Opd_place_323 ?_
                                                refine lv_aload_n hx hb d_Opd_place_326 rfl (lv_at hl 0 rfl) ?_
                                                refine lv_iconst (v := (0 : Int32)) hx hb d_Opd_place_327 (by decide) ?_
                                                refine kv_vs (rest := [.ref (a 1)]) X hP hS (c_Opd_direct l D cB cI a bz ha S (0 : Int32)) (kw_Opd_direct hts q_354 ⟨Nat.le_of_ble_eq_true rfl, Nat.le_of_ble_eq_true rfl⟩) 4 rfl rfl rfl hl.1 rfl (lv_room (Nat.le_of_ble_eq_true rfl)) d_Opd_place_328 (fun r69 S70 H locs e71 hP hS => ?_)
                                                refine kv_vs (rest := []) X hP hS (c_Bus_readLong l D cB cI a bz ha S70 r69) (kw_Bus_readLong hts q_374 ⟨Nat.le_of_ble_eq_true rfl, Nat.le_of_ble_eq_true rfl⟩) 1 rfl rfl rfl hl.1 rfl (lv_room (Nat.le_of_ble_eq_true rfl)) d_Opd_place_331 (fun r72 S73 H locs e74 hP hS => ?_)
                                                refine lv_aload_n hx hb d_Opd_place_334 rfl (lv_at hl 0 rfl) ?_
                                                refine gt_Opd X hP 1 (by decide) (v := .ref (a 2)) q_175 rfl d_Opd_place_335 ?_
                                                refine gt_Reg X hP 2 (by decide) (v := .int (S73.1 2)) q_116 rfl d_Opd_place_338 ?_
                                                refine lv_iadd hx hb d_Opd_place_341 ?_
                                                refine ks_v (rest := []) X hP hS (c_Bus_longPlace l D cB cI a bz ha S73 (r72 + (S73.1 2))) (kw_Bus_longPlace hts q_368 ⟨Nat.le_of_ble_eq_true rfl, Nat.le_of_ble_eq_true rfl⟩) rfl hl.1 rfl (lv_room (Nat.le_of_ble_eq_true rfl)) d_Opd_place_342 (fun H locs hP hS => ?_)
                                                refine lv_goto (tgt := 381) hx hb d_Opd_place_345 rfl ?_
                                                exact rt_vs X hr hk hP hS (by rw [f_Opd_place, if_neg h1, if_neg h8, if_neg h9, if_neg h13, if_neg h14, if_neg h18, if_neg h19, if_neg h26, if_neg h27, if_neg h28, if_neg h29, if_neg h30, if_neg h31, if_neg h35, if_neg h36, if_neg h40, if_neg h41, if_neg h48, if_neg h55, if_neg h62, if_neg h63, if_neg h67, if_pos h68, bn_eq e71, bn_eq e74]) d_Opd_place_381
                                              ·
                                                by_cases h75 : x1 = (24 : Int32)
                                                ·
                                                  refine sw_t (k := (24 : Int32)) (tgt := 380) hx hb d_Opd_place_1 h75 rfl ?_
                                                  refine lv_iconst (v := (0 : Int32)) hx hb d_Opd_place_380 (by decide) ?_
                                                  exact rt_vs X hr hk hP hS (by rw [f_Opd_place, if_neg h1, if_neg h8, if_neg h9, if_neg h13, if_neg h14, if_neg h18, if_neg h19, if_neg h26, if_neg h27, if_neg h28, if_neg h29, if_neg h30, if_neg h31, if_neg h35, if_neg h36, if_neg h40, if_neg h41, if_neg h48, if_neg h55, if_neg h62, if_neg h63, if_neg h67, if_neg h68, if_pos h75]) d_Opd_place_381
                                                ·
                                                  by_cases h76 : x1 = (25 : Int32)
                                                  ·
                                                    refine sw_t (k := (25 : Int32)) (tgt := 192) hx hb d_Opd_place_1 h76 rfl ?_
                                                    refine lv_aload_n hx hb d_Opd_place_192 rfl (lv_at hl 0 rfl) ?_
                                                    refine lv_aload_n hx hb d_Opd_place_193 rfl (lv_at hl 0 rfl) ?_
                                                    refine kv_vs (rest := [.ref (a 4)]) X hP hS (c_Opd_nextWord l D cB cI a bz ha S) (kw_Opd_nextWord hts q_360 ⟨Nat.le_of_ble_eq_true rfl, Nat.le_of_ble_eq_true rfl⟩) 4 rfl rfl rfl hl.1 rfl (lv_room (Nat.le_of_ble_eq_true rfl)) d_Opd_place_194 (fun r77 S78 H locs e79 hP hS => ?_)
                                                    refine lv_aload_n hx hb d_Opd_place_197 rfl (lv_at hl 0 rfl) ?_
                                                    refine gt_Opd X hP 1 (by decide) (v := .ref (a 2)) q_175 rfl d_Opd_place_198 ?_
                                                    refine gt_Reg X hP 2 (by decide) (v := .int (S78.1 2)) q_116 rfl d_Opd_place_201 ?_
                                                    refine kv_v (rest := []) X hP hS (c_Opd_inDataBank l D cB cI a bz ha S78 r77 (S78.1 2)) (kw_Opd_inDataBank hts q_364 ⟨Nat.le_of_ble_eq_true rfl, Nat.le_of_ble_eq_true rfl⟩) 4 rfl rfl rfl hl.1 rfl (lv_room (Nat.le_of_ble_eq_true rfl)) d_Opd_place_204 (fun H locs hP hS => ?_)
                                                    refine lv_goto (tgt := 381) hx hb d_Opd_place_207 rfl ?_
                                                    exact rt_vs X hr hk hP hS (by rw [f_Opd_place, if_neg h1, if_neg h8, if_neg h9, if_neg h13, if_neg h14, if_neg h18, if_neg h19, if_neg h26, if_neg h27, if_neg h28, if_neg h29, if_neg h30, if_neg h31, if_neg h35, if_neg h36, if_neg h40, if_neg h41, if_neg h48, if_neg h55, if_neg h62, if_neg h63, if_neg h67, if_neg h68, if_neg h75, if_pos h76, bn_eq e79]) d_Opd_place_381
                                                  ·
                                                    by_cases h80 : x1 = (26 : Int32)
                                                    ·
                                                      refine sw_t (k := (26 : Int32)) (tgt := 380) hx hb d_Opd_place_1 h80 rfl ?_
                                                      refine lv_iconst (v := (0 : Int32)) hx hb d_Opd_place_380 (by decide) ?_
                                                      exact rt_vs X hr hk hP hS (by rw [f_Opd_place, if_neg h1, if_neg h8, if_neg h9, if_neg h13, if_neg h14, if_neg h18, if_neg h19, if_neg h26, if_neg h27, if_neg h28, if_neg h29, if_neg h30, if_neg h31, if_neg h35, if_neg h36, if_neg h40, if_neg h41, if_neg h48, if_neg h55, if_neg h62, if_neg h63, if_neg h67, if_neg h68, if_neg h75, if_neg h76, if_pos h80]) d_Opd_place_381
                                                    ·
                                                      by_cases h81 : x1 = (27 : Int32)
                                                      ·
                                                        refine sw_t (k := (27 : Int32)) (tgt := 380) hx hb d_Opd_place_1 h81 rfl ?_
                                                        refine lv_iconst (v := (0 : Int32)) hx hb d_Opd_place_380 (by decide) ?_
                                                        exact rt_vs X hr hk hP hS (by rw [f_Opd_place, if_neg h1, if_neg h8, if_neg h9, if_neg h13, if_neg h14, if_neg h18, if_neg h19, if_neg h26, if_neg h27, if_neg h28, if_neg h29, if_neg h30, if_neg h31, if_neg h35, if_neg h36, if_neg h40, if_neg h41, if_neg h48, if_neg h55, if_neg h62, if_neg h63, if_neg h67, if_neg h68, if_neg h75, if_neg h76, if_neg h80, if_pos h81]) d_Opd_place_381
                                                      ·
                                                        by_cases h82 : x1 = (28 : Int32)
                                                        ·
                                                          refine sw_t (k := (28 : Int32)) (tgt := 380) hx hb d_Opd_place_1 h82 rfl ?_
                                                          refine lv_iconst (v := (0 : Int32)) hx hb d_Opd_place_380 (by decide) ?_
                                                          exact rt_vs X hr hk hP hS (by rw [f_Opd_place, if_neg h1, if_neg h8, if_neg h9, if_neg h13, if_neg h14, if_neg h18, if_neg h19, if_neg h26, if_neg h27, if_neg h28, if_neg h29, if_neg h30, if_neg h31, if_neg h35, if_neg h36, if_neg h40, if_neg h41, if_neg h48, if_neg h55, if_neg h62, if_neg h63, if_neg h67, if_neg h68, if_neg h75, if_neg h76, if_neg h80, if_neg h81, if_pos h82]) d_Opd_place_381
                                                        ·
                                                          by_cases h83 : x1 = (29 : Int32)
                                                          ·
                                                            refine sw_t (k := (29 : Int32)) (tgt := 174) hx hb d_Opd_place_1 h83 rfl ?_
                                                            refine lv_aload_n hx hb d_Opd_place_174 rfl (lv_at hl 0 rfl) ?_
                                                            refine lv_aload_n hx hb d_Opd_place_175 rfl (lv_at hl 0 rfl) ?_
                                                            refine kv_vs (rest := [.ref (a 4)]) X hP hS (c_Opd_nextWord l D cB cI a bz ha S) (kw_Opd_nextWord hts q_360 ⟨Nat.le_of_ble_eq_true rfl, Nat.le_of_ble_eq_true rfl⟩) 4 rfl rfl rfl hl.1 rfl (lv_room (Nat.le_of_ble_eq_true rfl)) d_Opd_place_176 (fun r84 S85 H locs e86 hP hS => ?_)
                                                            refine lv_aload_n hx hb d_Opd_place_179 rfl (lv_at hl 0 rfl) ?_
                                                            refine gt_Opd X hP 1 (by decide) (v := .ref (a 2)) q_175 rfl d_Opd_place_180 ?_
                                                            refine gt_Reg X hP 1 (by decide) (v := .int (S85.1 1)) q_112 rfl d_Opd_place_183 ?_
                                                            refine kv_v (rest := []) X hP hS (c_Opd_inDataBank l D cB cI a bz ha S85 r84 (S85.1 1)) (kw_Opd_inDataBank hts q_364 ⟨Nat.le_of_ble_eq_true rfl, Nat.le_of_ble_eq_true rfl⟩) 4 rfl rfl rfl hl.1 rfl (lv_room (Nat.le_of_ble_eq_true rfl)) d_Opd_place_186 (fun H locs hP hS => ?_)
                                                            refine lv_goto (tgt := 381) hx hb d_Opd_place_189 rfl ?_
                                                            exact rt_vs X hr hk hP hS (by rw [f_Opd_place, if_neg h1, if_neg h8, if_neg h9, if_neg h13, if_neg h14, if_neg h18, if_neg h19, if_neg h26, if_neg h27, if_neg h28, if_neg h29, if_neg h30, if_neg h31, if_neg h35, if_neg h36, if_neg h40, if_neg h41, if_neg h48, if_neg h55, if_neg h62, if_neg h63, if_neg h67, if_neg h68, if_neg h75, if_neg h76, if_neg h80, if_neg h81, if_neg h82, if_pos h83, bn_eq e86]) d_Opd_place_381
                                                          ·
                                                            by_cases h87 : x1 = (30 : Int32)
                                                            ·
                                                              refine sw_t (k := (30 : Int32)) (tgt := 380) hx hb d_Opd_place_1 h87 rfl ?_
                                                              refine lv_iconst (v := (0 : Int32)) hx hb d_Opd_place_380 (by decide) ?_
                                                              exact rt_vs X hr hk hP hS (by rw [f_Opd_place, if_neg h1, if_neg h8, if_neg h9, if_neg h13, if_neg h14, if_neg h18, if_neg h19, if_neg h26, if_neg h27, if_neg h28, if_neg h29, if_neg h30, if_neg h31, if_neg h35, if_neg h36, if_neg h40, if_neg h41, if_neg h48, if_neg h55, if_neg h62, if_neg h63, if_neg h67, if_neg h68, if_neg h75, if_neg h76, if_neg h80, if_neg h81, if_neg h82, if_neg h83, if_pos h87]) d_Opd_place_381
                                                            ·
                                                              by_cases h88 : x1 = (31 : Int32)
                                                              ·
                                                                refine sw_t (k := (31 : Int32)) (tgt := 217) hx hb d_Opd_place_1 h88 rfl ?_
                                                                refine lv_aload_n hx hb d_Opd_place_217 rfl (lv_at hl 0 rfl) ?_
                                                                refine kv_vs (rest := []) X hP hS (c_Opd_nextLong l D cB cI a bz ha S) (kw_Opd_nextLong hts q_369 ⟨Nat.le_of_ble_eq_true rfl, Nat.le_of_ble_eq_true rfl⟩) 4 rfl rfl rfl hl.1 rfl (lv_room (Nat.le_of_ble_eq_true rfl)) d_Opd_place_218 (fun r89 S90 H locs e91 hP hS => ?_)
                                                                refine lv_aload_n hx hb d_Opd_place_221 rfl (lv_at hl 0 rfl) ?_
                                                                refine gt_Opd X hP 1 (by decide) (v := .ref (a 2)) q_175 rfl d_Opd_place_222 ?_
                                                                refine gt_Reg X hP 1 (by decide) (v := .int (S90.1 1)) q_112 rfl d_Opd_place_225 ?_
                                                                refine lv_iadd hx hb d_Opd_place_228 ?_
                                                                refine ks_v (rest := []) X hP hS (c_Bus_longPlace l D cB cI a bz ha S90 (r89 + (S90.1 1))) (kw_Bus_longPlace hts q_368 ⟨Nat.le_of_ble_eq_true rfl, Nat.le_of_ble_eq_true rfl⟩) rfl hl.1 rfl (lv_room (Nat.le_of_ble_eq_true rfl)) d_Opd_place_229 (fun H locs hP hS => ?_)
                                                                refine lv_goto (tgt := 381) hx hb d_Opd_place_232 rfl ?_
                                                                exact rt_vs X hr hk hP hS (by rw [f_Opd_place, if_neg h1, if_neg h8, if_neg h9, if_neg h13, if_neg h14, if_neg h18, if_neg h19, if_neg h26, if_neg h27, if_neg h28, if_neg h29, if_neg h30, if_neg h31, if_neg h35, if_neg h36, if_neg h40, if_neg h41, if_neg h48, if_neg h55, if_neg h62, if_neg h63, if_neg h67, if_neg h68, if_neg h75, if_neg h76, if_neg h80, if_neg h81, if_neg h82, if_neg h83, if_neg h87, if_pos h88, bn_eq e91]) d_Opd_place_381
                                                              ·
                                                                refine sn_t (tgt := 380) hx hb d_Opd_place_1 (by have g0 := lv_neT (a := 1) h1 rfl; have g1 := lv_neT (a := 2) h8 rfl; have g2 := lv_neT (a := 3) h9 rfl; have g3 := lv_neT (a := 4) h13 rfl; have g4 := lv_neT (a := 5) h14 rfl; have g5 := lv_neT (a := 6) h18 rfl; have g6 := lv_neT (a := 7) h19 rfl; have g7 := lv_neT (a := 8) h26 rfl; have g8 := lv_neT (a := 9) h27 rfl; have g9 := lv_neT (a := 10) h28 rfl; have g10 := lv_neT (a := 11) h29 rfl; have g11 := lv_neT (a := 12) h30 rfl; have g12 := lv_neT (a := 13) h31 rfl; have g13 := lv_neT (a := 14) h35 rfl; have g14 := lv_neT (a := 15) h36 rfl; have g15 := lv_neT (a := 16) h40 rfl; have g16 := lv_neT (a := 17) h41 rfl; have g17 := lv_neT (a := 18) h48 rfl; have g18 := lv_neT (a := 19) h55 rfl; have g19 := lv_neT (a := 20) h62 rfl; have g20 := lv_neT (a := 21) h63 rfl; have g21 := lv_neT (a := 22) h67 rfl; have g22 := lv_neT (a := 23) h68 rfl; have g23 := lv_neT (a := 24) h75 rfl; have g24 := lv_neT (a := 25) h76 rfl; have g25 := lv_neT (a := 26) h80 rfl; have g26 := lv_neT (a := 27) h81 rfl; have g27 := lv_neT (a := 28) h82 rfl; have g28 := lv_neT (a := 29) h83 rfl; have g29 := lv_neT (a := 30) h87 rfl; have g30 := lv_neT (a := 31) h88 rfl; omega) rfl ?_
                                                                refine lv_iconst (v := (0 : Int32)) hx hb d_Opd_place_380 (by decide) ?_
                                                                exact rt_vs X hr hk hP hS (by rw [f_Opd_place, if_neg h1, if_neg h8, if_neg h9, if_neg h13, if_neg h14, if_neg h18, if_neg h19, if_neg h26, if_neg h27, if_neg h28, if_neg h29, if_neg h30, if_neg h31, if_neg h35, if_neg h36, if_neg h40, if_neg h41, if_neg h48, if_neg h55, if_neg h62, if_neg h63, if_neg h67, if_neg h68, if_neg h75, if_neg h76, if_neg h80, if_neg h81, if_neg h82, if_neg h83, if_neg h87, if_neg h88]) d_Opd_place_381
set_option maxHeartbeats 4000000 in
set_option maxRecDepth 100000 in
theorem c_Opd_nextValue (l : Launch) (D : va_G) (cB cI : ClassId) (a : Nat → Nat) (bz : Nat) (ha : ap a 8) (S : Sc) (x1 : Int32) : MI l y_Opd_nextValue b_Opd_nextValue 2 (some .int) rm_Opd_nextValue [.ref (a 4), .int x1] D cB cI (wdC cB cI a) (ow a 8) bz S (f_Opd_nextValue S x1) := by
  refine met_in R_Opd (by decide) rfl (Nat.le_of_ble_eq_true rfl) (wdC_D ha cB cI) ?_
  intro p e s m below meth c ls X hr hk hl hP hS
  have hx := X.1.1
  have hb := X.1.2.1
  have hown := X.1.2.2.2.1
  have hts := X.1.2.2.2.2
  have hl : lv_has ls 2 [(0, .ref (a 4)), (1, .int x1)] := hl
  refine lv_iload_n hx hb d_Opd_nextValue_0 rfl (lv_at hl 1 rfl) ?_
  refine lv_if_eq (tgt := 11) hx hb d_Opd_nextValue_1 rfl (fun h1 => ?_) (fun h1 => ?_)
  ·
    refine lv_aload_n hx hb d_Opd_nextValue_11 rfl (lv_at hl 0 rfl) ?_
    refine kv_vs (rest := []) X hP hS (c_Opd_nextByte l D cB cI a bz ha S) (kw_Opd_nextByte hts q_358 ⟨Nat.le_of_ble_eq_true rfl, Nat.le_of_ble_eq_true rfl⟩) 4 rfl rfl rfl hl.1 rfl (lv_room (Nat.le_of_ble_eq_true rfl)) d_Opd_nextValue_12 (fun r2 S3 H locs e4 hP hS => ?_)
    exact rt_vs X hr hk hP hS (by rw [f_Opd_nextValue, if_pos h1, bn_eq e4]) d_Opd_nextValue_15
  ·
    refine lv_aload_n hx hb d_Opd_nextValue_4 rfl (lv_at hl 0 rfl) ?_
    refine kv_vs (rest := []) X hP hS (c_Opd_nextWord l D cB cI a bz ha S) (kw_Opd_nextWord hts q_360 ⟨Nat.le_of_ble_eq_true rfl, Nat.le_of_ble_eq_true rfl⟩) 4 rfl rfl rfl hl.1 rfl (lv_room (Nat.le_of_ble_eq_true rfl)) d_Opd_nextValue_5 (fun r5 S6 H locs e7 hP hS => ?_)
    refine lv_goto (tgt := 15) hx hb d_Opd_nextValue_8 rfl ?_
    exact rt_vs X hr hk hP hS (by rw [f_Opd_nextValue, if_neg h1, bn_eq e7]) d_Opd_nextValue_15
set_option maxHeartbeats 4000000 in
set_option maxRecDepth 100000 in
theorem c_Stk_pushValue (l : Launch) (D : va_G) (cB cI : ClassId) (a : Nat → Nat) (bz : Nat) (ha : ap a 8) (S : Sc) (x1 x2 : Int32) : MV l y_Stk_pushValue b_Stk_pushValue 3 rm_Stk_pushValue [.ref (a 5), .int x1, .int x2] D cB cI (wdC cB cI a) (ow a 8) bz S (f_Stk_pushValue S x1 x2) := by
  refine met_in R_Stk (by decide) rfl (Nat.le_of_ble_eq_true rfl) (wdC_D ha cB cI) ?_
  intro p e s m below meth c ls X hr hk hl hP hS
  have hx := X.1.1
  have hb := X.1.2.1
  have hown := X.1.2.2.2.1
  have hts := X.1.2.2.2.2
  have hl : lv_has ls 3 [(0, .ref (a 5)), (1, .int x1), (2, .int x2)] := hl
  refine lv_iload_n hx hb d_Stk_pushValue_0 rfl (lv_at hl 2 rfl) ?_
  refine lv_if_eq (tgt := 12) hx hb d_Stk_pushValue_1 rfl (fun h1 => ?_) (fun h1 => ?_)
  ·
    refine lv_aload_n hx hb d_Stk_pushValue_12 rfl (lv_at hl 0 rfl) ?_
    refine lv_iload_n hx hb d_Stk_pushValue_13 rfl (lv_at hl 1 rfl) ?_
    refine kv_s (rest := []) X hP hS (c_Stk_pushByte l D cB cI a bz ha S x1) (kw_Stk_pushByte hts q_304 ⟨Nat.le_of_ble_eq_true rfl, Nat.le_of_ble_eq_true rfl⟩) 5 rfl rfl rfl hl.1 rfl (lv_room (Nat.le_of_ble_eq_true rfl)) d_Stk_pushValue_14 (fun S2 H locs e3 hP hS => ?_)
    exact rt_s X hr hk hP hS (by rw [f_Stk_pushValue, if_pos h1, bs_eq e3]) d_Stk_pushValue_17
  ·
    refine lv_aload_n hx hb d_Stk_pushValue_4 rfl (lv_at hl 0 rfl) ?_
    refine lv_iload_n hx hb d_Stk_pushValue_5 rfl (lv_at hl 1 rfl) ?_
    refine lv_bipush (v := (8 : Int32)) hx hb d_Stk_pushValue_6 (by decide) ?_
    refine lv_ishr hx hb d_Stk_pushValue_8 ?_
    refine kv_s (rest := []) X hP hS (c_Stk_pushByte l D cB cI a bz ha S (x1 >>> ((8 : Int32) &&& 31))) (kw_Stk_pushByte hts q_304 ⟨Nat.le_of_ble_eq_true rfl, Nat.le_of_ble_eq_true rfl⟩) 5 rfl rfl rfl hl.1 rfl (lv_room (Nat.le_of_ble_eq_true rfl)) d_Stk_pushValue_9 (fun S4 H locs e5 hP hS => ?_)
    refine lv_aload_n hx hb d_Stk_pushValue_12 rfl (lv_at hl 0 rfl) ?_
    refine lv_iload_n hx hb d_Stk_pushValue_13 rfl (lv_at hl 1 rfl) ?_
    refine kv_s (rest := []) X hP hS (c_Stk_pushByte l D cB cI a bz ha S4 x1) (kw_Stk_pushByte hts q_304 ⟨Nat.le_of_ble_eq_true rfl, Nat.le_of_ble_eq_true rfl⟩) 5 rfl rfl rfl hl.1 rfl (lv_room (Nat.le_of_ble_eq_true rfl)) d_Stk_pushValue_14 (fun S6 H locs e7 hP hS => ?_)
    exact rt_s X hr hk hP hS (by rw [f_Stk_pushValue, if_neg h1, bs_eq e5, bs_eq e7]) d_Stk_pushValue_17
set_option maxHeartbeats 4000000 in
set_option maxRecDepth 100000 in
theorem c_Stk_pullByte (l : Launch) (D : va_G) (cB cI : ClassId) (a : Nat → Nat) (bz : Nat) (ha : ap a 8) (S : Sc) : MI l y_Stk_pullByte b_Stk_pullByte 1 (some .int) rm_Stk_pullByte [.ref (a 5)] D cB cI (wdC cB cI a) (ow a 8) bz S (f_Stk_pullByte S) := by
  refine met_in R_Stk (by decide) rfl (Nat.le_of_ble_eq_true rfl) (wdC_D ha cB cI) ?_
  intro p e s m below meth c ls X hr hk hl hP hS
  have hx := X.1.1
  have hb := X.1.2.1
  have hown := X.1.2.2.2.1
  have hts := X.1.2.2.2.2
  have hl : lv_has ls 1 [(0, .ref (a 5))] := hl
  refine lv_aload_n hx hb d_Stk_pullByte_0 rfl (lv_at hl 0 rfl) ?_
  refine gt_Stk X hP 1 (by decide) (v := .ref (a 2)) q_188 rfl d_Stk_pullByte_1 ?_
  refine lv_aload_n hx hb d_Stk_pullByte_4 rfl (lv_at hl 0 rfl) ?_
  refine gt_Stk X hP 1 (by decide) (v := .ref (a 2)) q_188 rfl d_Stk_pullByte_5 ?_
  refine gt_Reg X hP 3 (by decide) (v := .int (S.1 3)) q_120 rfl d_Stk_pullByte_8 ?_
  refine lv_iconst (v := (1 : Int32)) hx hb d_Stk_pullByte_11 (by decide) ?_
  refine lv_iadd hx hb d_Stk_pullByte_12 ?_
  refine lv_ldc (v := (65535 : Int32)) hx hb hown (hts _ q_299) d_Stk_pullByte_13 ?_
  refine lv_iand hx hb d_Stk_pullByte_15 ?_
  refine pt_Reg X hP hS 3 (by decide) (v := (((S.1 3) + (1 : Int32)) &&& (65535 : Int32))) (S1 := (pr S 3 ((((S.1 3) + (1 : Int32)) &&& (65535 : Int32))))) q_120 rfl rfl rfl rfl d_Stk_pullByte_16 (fun H locs hP hS => ?_)
  refine lv_aload_n hx hb d_Stk_pullByte_19 rfl (lv_at hl 0 rfl) ?_
  refine gt_Stk X hP 0 (by decide) (v := .ref (a 1)) q_187 rfl d_Stk_pullByte_20 ?_
  refine lv_aload_n hx hb d_Stk_pullByte_23 rfl (lv_at hl 0 rfl) ?_
  refine gt_Stk X hP 1 (by decide) (v := .ref (a 2)) q_188 rfl d_Stk_pullByte_24 ?_
  refine gt_Reg X hP 3 (by decide) (v := .int ((((S.1 3) + (1 : Int32)) &&& (65535 : Int32)))) q_120 rfl d_Stk_pullByte_27 ?_
  refine ks_v (rest := [.ref (a 1)]) X hP hS (c_Bus_bank0Place l D cB cI a bz ha (pr S 3 ((((S.1 3) + (1 : Int32)) &&& (65535 : Int32)))) (((S.1 3) + (1 : Int32)) &&& (65535 : Int32))) (kw_Bus_bank0Place hts q_287 ⟨Nat.le_of_ble_eq_true rfl, Nat.le_of_ble_eq_true rfl⟩) rfl hl.1 rfl (lv_room (Nat.le_of_ble_eq_true rfl)) d_Stk_pullByte_30 (fun H locs hP hS => ?_)
  refine kv_vs (rest := []) X hP hS (c_Bus_readByte l D cB cI a bz ha (pr S 3 ((((S.1 3) + (1 : Int32)) &&& (65535 : Int32)))) (f_Bus_bank0Place (((S.1 3) + (1 : Int32)) &&& (65535 : Int32)))) (kw_Bus_readByte hts q_490 ⟨Nat.le_of_ble_eq_true rfl, Nat.le_of_ble_eq_true rfl⟩) 1 rfl rfl rfl hl.1 rfl (lv_room (Nat.le_of_ble_eq_true rfl)) d_Stk_pullByte_33 (fun r1 S2 H locs e3 hP hS => ?_)
  exact rt_vs X hr hk hP hS (by rw [f_Stk_pullByte, bn_eq e3]) d_Stk_pullByte_36
set_option maxHeartbeats 4000000 in
set_option maxRecDepth 100000 in
theorem c_Stk_pullWord (l : Launch) (D : va_G) (cB cI : ClassId) (a : Nat → Nat) (bz : Nat) (ha : ap a 8) (S : Sc) : MI l y_Stk_pullWord b_Stk_pullWord 2 (some .int) rm_Stk_pullWord [.ref (a 5)] D cB cI (wdC cB cI a) (ow a 8) bz S (f_Stk_pullWord S) := by
  refine met_in R_Stk (by decide) rfl (Nat.le_of_ble_eq_true rfl) (wdC_D ha cB cI) ?_
  intro p e s m below meth c ls X hr hk hl hP hS
  have hx := X.1.1
  have hb := X.1.2.1
  have hown := X.1.2.2.2.1
  have hts := X.1.2.2.2.2
  have hl : lv_has ls 2 [(0, .ref (a 5))] := hl
  refine lv_aload_n hx hb d_Stk_pullWord_0 rfl (lv_at hl 0 rfl) ?_
  refine kv_vs (rest := []) X hP hS (c_Stk_pullByte l D cB cI a bz ha S) (kw_Stk_pullByte hts q_486 ⟨Nat.le_of_ble_eq_true rfl, Nat.le_of_ble_eq_true rfl⟩) 5 rfl rfl rfl hl.1 rfl (lv_room (Nat.le_of_ble_eq_true rfl)) d_Stk_pullWord_1 (fun r1 S2 H locs e3 hP hS => ?_)
  refine lv_istore_n hx hb d_Stk_pullWord_4 rfl hl (Nat.le_of_ble_eq_true rfl) rfl (fun ls hl => ?_)
  have hl : lv_has ls 2 [(1, .int (r1)), (0, .ref (a 5))] := hl
  refine lv_iload_n hx hb d_Stk_pullWord_5 rfl (lv_at hl 0 rfl) ?_
  refine lv_aload_n hx hb d_Stk_pullWord_6 rfl (lv_at hl 1 rfl) ?_
  refine kv_vs (rest := [.int (r1)]) X hP hS (c_Stk_pullByte l D cB cI a bz ha S2) (kw_Stk_pullByte hts q_486 ⟨Nat.le_of_ble_eq_true rfl, Nat.le_of_ble_eq_true rfl⟩) 5 rfl rfl rfl hl.1 rfl (lv_room (Nat.le_of_ble_eq_true rfl)) d_Stk_pullWord_7 (fun r4 S5 H locs e6 hP hS => ?_)
  refine lv_bipush (v := (8 : Int32)) hx hb d_Stk_pullWord_10 (by decide) ?_
  refine lv_ishl hx hb d_Stk_pullWord_12 ?_
  refine lv_ior hx hb d_Stk_pullWord_13 ?_
  exact rt_vs X hr hk hP hS (by rw [f_Stk_pullWord, bn_eq e3, bn_eq e6]) d_Stk_pullWord_14
set_option maxHeartbeats 4000000 in
set_option maxRecDepth 100000 in
theorem c_Stk_pullValue (l : Launch) (D : va_G) (cB cI : ClassId) (a : Nat → Nat) (bz : Nat) (ha : ap a 8) (S : Sc) (x1 : Int32) : MI l y_Stk_pullValue b_Stk_pullValue 2 (some .int) rm_Stk_pullValue [.ref (a 5), .int x1] D cB cI (wdC cB cI a) (ow a 8) bz S (f_Stk_pullValue S x1) := by
  refine met_in R_Stk (by decide) rfl (Nat.le_of_ble_eq_true rfl) (wdC_D ha cB cI) ?_
  intro p e s m below meth c ls X hr hk hl hP hS
  have hx := X.1.1
  have hb := X.1.2.1
  have hown := X.1.2.2.2.1
  have hts := X.1.2.2.2.2
  have hl : lv_has ls 2 [(0, .ref (a 5)), (1, .int x1)] := hl
  refine lv_iload_n hx hb d_Stk_pullValue_0 rfl (lv_at hl 1 rfl) ?_
  refine lv_if_eq (tgt := 11) hx hb d_Stk_pullValue_1 rfl (fun h1 => ?_) (fun h1 => ?_)
  ·
    refine lv_aload_n hx hb d_Stk_pullValue_11 rfl (lv_at hl 0 rfl) ?_
    refine kv_vs (rest := []) X hP hS (c_Stk_pullByte l D cB cI a bz ha S) (kw_Stk_pullByte hts q_486 ⟨Nat.le_of_ble_eq_true rfl, Nat.le_of_ble_eq_true rfl⟩) 5 rfl rfl rfl hl.1 rfl (lv_room (Nat.le_of_ble_eq_true rfl)) d_Stk_pullValue_12 (fun r2 S3 H locs e4 hP hS => ?_)
    exact rt_vs X hr hk hP hS (by rw [f_Stk_pullValue, if_pos h1, bn_eq e4]) d_Stk_pullValue_15
  ·
    refine lv_aload_n hx hb d_Stk_pullValue_4 rfl (lv_at hl 0 rfl) ?_
    refine kv_vs (rest := []) X hP hS (c_Stk_pullWord l D cB cI a bz ha S) (kw_Stk_pullWord hts q_482 ⟨Nat.le_of_ble_eq_true rfl, Nat.le_of_ble_eq_true rfl⟩) 5 rfl rfl rfl hl.1 rfl (lv_room (Nat.le_of_ble_eq_true rfl)) d_Stk_pullValue_5 (fun r5 S6 H locs e7 hP hS => ?_)
    refine lv_goto (tgt := 15) hx hb d_Stk_pullValue_8 rfl ?_
    exact rt_vs X hr hk hP hS (by rw [f_Stk_pullValue, if_neg h1, bn_eq e7]) d_Stk_pullValue_15
