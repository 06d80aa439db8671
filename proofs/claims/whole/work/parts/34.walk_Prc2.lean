set_option maxHeartbeats 4000000 in
set_option maxRecDepth 100000 in
theorem c_Prc_changeRegister (l : Launch) (D : va_G) (cB cI : ClassId) (a : Nat → Nat) (bz : Nat) (ha : ap a 8) (S : Sc) (x1 : Int32) : MI l y_Prc_changeRegister b_Prc_changeRegister 3 (some .boolean) rm_Prc_changeRegister [.ref (a 3), .int x1] D cB cI (wdC cB cI a) (ow a 8) bz S (f_Prc_changeRegister S x1) := by
  refine met_in R_Prc (by decide) rfl (Nat.le_of_ble_eq_true rfl) (wdC_D ha cB cI) ?_
  intro p e s m below meth c ls X hr hk hl hP hS
  have hx := X.1.1
  have hb := X.1.2.1
  have hown := X.1.2.2.2.1
  have hts := X.1.2.2.2.2
  have hl : lv_has ls 3 [(0, .ref (a 3)), (1, .int x1)] := hl
  refine lv_aload_n hx hb d_Prc_changeRegister_0 rfl (lv_at hl 0 rfl) ?_
  refine gt_Prc X hP 1 (by decide) (v := .ref (a 2)) q_195 rfl d_Prc_changeRegister_1 ?_
  refine kv_v (rest := []) X hP hS (c_Reg_wideA l D cB cI a bz ha S) (kw_Reg_wideA hts q_346 ⟨Nat.le_of_ble_eq_true rfl, Nat.le_of_ble_eq_true rfl⟩) 2 rfl rfl rfl hl.1 rfl (lv_room (Nat.le_of_ble_eq_true rfl)) d_Prc_changeRegister_4 (fun H locs hP hS => ?_)
  refine lv_istore_n hx hb d_Prc_changeRegister_7 rfl hl (Nat.le_of_ble_eq_true rfl) rfl (fun ls hl => ?_)
  have hl : lv_has ls 3 [(2, .int ((f_Reg_wideA S))), (0, .ref (a 3)), (1, .int (x1))] := hl
  refine lv_iload_n hx hb d_Prc_changeRegister_8 rfl (lv_at hl 2 rfl) ?_
  by_cases h1 : x1 = (10 : Int32)
  ·
    refine sw_l (k := (10 : Int32)) (tgt := 100) hx hb d_Prc_changeRegister_9 h1 rfl ?_
    refine lv_aload_n hx hb d_Prc_changeRegister_100 rfl (lv_at hl 1 rfl) ?_
    refine gt_Prc X hP 1 (by decide) (v := .ref (a 2)) q_195 rfl d_Prc_changeRegister_101 ?_
    refine lv_aload_n hx hb d_Prc_changeRegister_104 rfl (lv_at hl 1 rfl) ?_
    refine lv_iload_n hx hb d_Prc_changeRegister_105 rfl (lv_at hl 2 rfl) ?_
    refine lv_iconst (v := (5 : Int32)) hx hb d_Prc_changeRegister_106 (by decide) ?_
    refine lv_ishr hx hb d_Prc_changeRegister_107 ?_
    refine lv_aload_n hx hb d_Prc_changeRegister_108 rfl (lv_at hl 1 rfl) ?_
    refine gt_Prc X hP 1 (by decide) (v := .ref (a 2)) q_195 rfl d_Prc_changeRegister_109 ?_
    refine kv_v (rest := [.int ((x1 >>> ((5 : Int32) &&& 31))), .ref (a 3), .ref (a 2)]) X hP hS (c_Reg_a l D cB cI a bz ha S) (kw_Reg_a hts q_396 ⟨Nat.le_of_ble_eq_true rfl, Nat.le_of_ble_eq_true rfl⟩) 2 rfl rfl rfl hl.1 rfl (lv_room (Nat.le_of_ble_eq_true rfl)) d_Prc_changeRegister_112 (fun H locs hP hS => ?_)
    refine lv_iload_n hx hb d_Prc_changeRegister_115 rfl (lv_at hl 0 rfl) ?_
    refine kv_vs (rest := [.ref (a 2)]) X hP hS (c_Prc_changed l D cB cI a bz ha S (x1 >>> ((5 : Int32) &&& 31)) (f_Reg_a S) (f_Reg_wideA S)) (kw_Prc_changed hts q_445 ⟨Nat.le_of_ble_eq_true rfl, Nat.le_of_ble_eq_true rfl⟩) 3 rfl rfl rfl hl.1 rfl (lv_room (Nat.le_of_ble_eq_true rfl)) d_Prc_changeRegister_116 (fun r2 S3 H locs e4 hP hS => ?_)
    refine kv_s (rest := []) X hP hS (c_Reg_loadA l D cB cI a bz ha S3 r2) (kw_Reg_loadA hts q_401 ⟨Nat.le_of_ble_eq_true rfl, Nat.le_of_ble_eq_true rfl⟩) 2 rfl rfl rfl hl.1 rfl (lv_room (Nat.le_of_ble_eq_true rfl)) d_Prc_changeRegister_119 (fun S5 H locs e6 hP hS => ?_)
    refine lv_goto (tgt := 251) hx hb d_Prc_changeRegister_122 rfl ?_
    refine lv_iconst (v := (1 : Int32)) hx hb d_Prc_changeRegister_251 (by decide) ?_
    exact rt_z X hr hk hP hS (by decide) (by rw [f_Prc_changeRegister, if_pos h1, bn_eq e4, bs_eq e6]) d_Prc_changeRegister_252
  ·
    by_cases h7 : x1 = (26 : Int32)
    ·
      refine sw_l (k := (26 : Int32)) (tgt := 125) hx hb d_Prc_changeRegister_9 h7 rfl ?_
      refine lv_aload_n hx hb d_Prc_changeRegister_125 rfl (lv_at hl 1 rfl) ?_
      refine gt_Prc X hP 1 (by decide) (v := .ref (a 2)) q_195 rfl d_Prc_changeRegister_126 ?_
      refine lv_aload_n hx hb d_Prc_changeRegister_129 rfl (lv_at hl 1 rfl) ?_
      refine lv_bipush (v := (7 : Int32)) hx hb d_Prc_changeRegister_130 (by decide) ?_
      refine lv_aload_n hx hb d_Prc_changeRegister_132 rfl (lv_at hl 1 rfl) ?_
      refine gt_Prc X hP 1 (by decide) (v := .ref (a 2)) q_195 rfl d_Prc_changeRegister_133 ?_
      refine kv_v (rest := [.int ((7 : Int32)), .ref (a 3), .ref (a 2)]) X hP hS (c_Reg_a l D cB cI a bz ha S) (kw_Reg_a hts q_396 ⟨Nat.le_of_ble_eq_true rfl, Nat.le_of_ble_eq_true rfl⟩) 2 rfl rfl rfl hl.1 rfl (lv_room (Nat.le_of_ble_eq_true rfl)) d_Prc_changeRegister_136 (fun H locs hP hS => ?_)
      refine lv_iload_n hx hb d_Prc_changeRegister_139 rfl (lv_at hl 0 rfl) ?_
      refine kv_vs (rest := [.ref (a 2)]) X hP hS (c_Prc_changed l D cB cI a bz ha S (7 : Int32) (f_Reg_a S) (f_Reg_wideA S)) (kw_Prc_changed hts q_445 ⟨Nat.le_of_ble_eq_true rfl, Nat.le_of_ble_eq_true rfl⟩) 3 rfl rfl rfl hl.1 rfl (lv_room (Nat.le_of_ble_eq_true rfl)) d_Prc_changeRegister_140 (fun r8 S9 H locs e10 hP hS => ?_)
      refine kv_s (rest := []) X hP hS (c_Reg_loadA l D cB cI a bz ha S9 r8) (kw_Reg_loadA hts q_401 ⟨Nat.le_of_ble_eq_true rfl, Nat.le_of_ble_eq_true rfl⟩) 2 rfl rfl rfl hl.1 rfl (lv_room (Nat.le_of_ble_eq_true rfl)) d_Prc_changeRegister_143 (fun S11 H locs e12 hP hS => ?_)
      refine lv_goto (tgt := 251) hx hb d_Prc_changeRegister_146 rfl ?_
      refine lv_iconst (v := (1 : Int32)) hx hb d_Prc_changeRegister_251 (by decide) ?_
      exact rt_z X hr hk hP hS (by decide) (by rw [f_Prc_changeRegister, if_neg h1, if_pos h7, bn_eq e10, bs_eq e12]) d_Prc_changeRegister_252
    ·
      by_cases h13 : x1 = (42 : Int32)
      ·
        refine sw_l (k := (42 : Int32)) (tgt := 100) hx hb d_Prc_changeRegister_9 h13 rfl ?_
        refine lv_aload_n hx hb d_Prc_changeRegister_100 rfl (lv_at hl 1 rfl) ?_
        refine gt_Prc X hP 1 (by decide) (v := .ref (a 2)) q_195 rfl d_Prc_changeRegister_101 ?_
        refine lv_aload_n hx hb d_Prc_changeRegister_104 rfl (lv_at hl 1 rfl) ?_
        refine lv_iload_n hx hb d_Prc_changeRegister_105 rfl (lv_at hl 2 rfl) ?_
        refine lv_iconst (v := (5 : Int32)) hx hb d_Prc_changeRegister_106 (by decide) ?_
        refine lv_ishr hx hb d_Prc_changeRegister_107 ?_
        refine lv_aload_n hx hb d_Prc_changeRegister_108 rfl (lv_at hl 1 rfl) ?_
        refine gt_Prc X hP 1 (by decide) (v := .ref (a 2)) q_195 rfl d_Prc_changeRegister_109 ?_
        refine kv_v (rest := [.int ((x1 >>> ((5 : Int32) &&& 31))), .ref (a 3), .ref (a 2)]) X hP hS (c_Reg_a l D cB cI a bz ha S) (kw_Reg_a hts q_396 ⟨Nat.le_of_ble_eq_true rfl, Nat.le_of_ble_eq_true rfl⟩) 2 rfl rfl rfl hl.1 rfl (lv_room (Nat.le_of_ble_eq_true rfl)) d_Prc_changeRegister_112 (fun H locs hP hS => ?_)
        refine lv_iload_n hx hb d_Prc_changeRegister_115 rfl (lv_at hl 0 rfl) ?_
        refine kv_vs (rest := [.ref (a 2)]) X hP hS (c_Prc_changed l D cB cI a bz ha S (x1 >>> ((5 : Int32) &&& 31)) (f_Reg_a S) (f_Reg_wideA S)) (kw_Prc_changed hts q_445 ⟨Nat.le_of_ble_eq_true rfl, Nat.le_of_ble_eq_true rfl⟩) 3 rfl rfl rfl hl.1 rfl (lv_room (Nat.le_of_ble_eq_true rfl)) d_Prc_changeRegister_116 (fun r14 S15 H locs e16 hP hS => ?_)
        refine kv_s (rest := []) X hP hS (c_Reg_loadA l D cB cI a bz ha S15 r14) (kw_Reg_loadA hts q_401 ⟨Nat.le_of_ble_eq_true rfl, Nat.le_of_ble_eq_true rfl⟩) 2 rfl rfl rfl hl.1 rfl (lv_room (Nat.le_of_ble_eq_true rfl)) d_Prc_changeRegister_119 (fun S17 H locs e18 hP hS => ?_)
        refine lv_goto (tgt := 251) hx hb d_Prc_changeRegister_122 rfl ?_
        refine lv_iconst (v := (1 : Int32)) hx hb d_Prc_changeRegister_251 (by decide) ?_
        exact rt_z X hr hk hP hS (by decide) (by rw [f_Prc_changeRegister, if_neg h1, if_neg h7, if_pos h13, bn_eq e16, bs_eq e18]) d_Prc_changeRegister_252
      ·
        by_cases h19 : x1 = (58 : Int32)
        ·
          refine sw_l (k := (58 : Int32)) (tgt := 149) hx hb d_Prc_changeRegister_9 h19 rfl ?_
          refine lv_aload_n hx hb d_Prc_changeRegister_149 rfl (lv_at hl 1 rfl) ?_
          refine gt_Prc X hP 1 (by decide) (v := .ref (a 2)) q_195 rfl d_Prc_changeRegister_150 ?_
          refine lv_aload_n hx hb d_Prc_changeRegister_153 rfl (lv_at hl 1 rfl) ?_
          refine lv_bipush (v := (6 : Int32)) hx hb d_Prc_changeRegister_154 (by decide) ?_
          refine lv_aload_n hx hb d_Prc_changeRegister_156 rfl (lv_at hl 1 rfl) ?_
          refine gt_Prc X hP 1 (by decide) (v := .ref (a 2)) q_195 rfl d_Prc_changeRegister_157 ?_
          refine kv_v (rest := [.int ((6 : Int32)), .ref (a 3), .ref (a 2)]) X hP hS (c_Reg_a l D cB cI a bz ha S) (kw_Reg_a hts q_396 ⟨Nat.le_of_ble_eq_true rfl, Nat.le_of_ble_eq_true rfl⟩) 2 rfl rfl rfl hl.1 rfl (lv_room (Nat.le_of_ble_eq_true rfl)) d_Prc_changeRegister_160 (fun H locs hP hS => ?_)
          refine lv_iload_n hx hb d_Prc_changeRegister_163 rfl (lv_at hl 0 rfl) ?_
          refine kv_vs (rest := [.ref (a 2)]) X hP hS (c_Prc_changed l D cB cI a bz ha S (6 : Int32) (f_Reg_a S) (f_Reg_wideA S)) (kw_Prc_changed hts q_445 ⟨Nat.le_of_ble_eq_true rfl, Nat.le_of_ble_eq_true rfl⟩) 3 rfl rfl rfl hl.1 rfl (lv_room (Nat.le_of_ble_eq_true rfl)) d_Prc_changeRegister_164 (fun r20 S21 H locs e22 hP hS => ?_)
          refine kv_s (rest := []) X hP hS (c_Reg_loadA l D cB cI a bz ha S21 r20) (kw_Reg_loadA hts q_401 ⟨Nat.le_of_ble_eq_true rfl, Nat.le_of_ble_eq_true rfl⟩) 2 rfl rfl rfl hl.1 rfl (lv_room (Nat.le_of_ble_eq_true rfl)) d_Prc_changeRegister_167 (fun S23 H locs e24 hP hS => ?_)
          refine lv_goto (tgt := 251) hx hb d_Prc_changeRegister_170 rfl ?_
          refine lv_iconst (v := (1 : Int32)) hx hb d_Prc_changeRegister_251 (by decide) ?_
          exact rt_z X hr hk hP hS (by decide) (by rw [f_Prc_changeRegister, if_neg h1, if_neg h7, if_neg h13, if_pos h19, bn_eq e22, bs_eq e24]) d_Prc_changeRegister_252
        ·
          by_cases h25 : x1 = (74 : Int32)
          ·
            refine sw_l (k := (74 : Int32)) (tgt := 100) hx hb d_Prc_changeRegister_9 h25 rfl ?_
            refine lv_aload_n hx hb d_Prc_changeRegister_100 rfl (lv_at hl 1 rfl) ?_
            refine gt_Prc X hP 1 (by decide) (v := .ref (a 2)) q_195 rfl d_Prc_changeRegister_101 ?_
            refine lv_aload_n hx hb d_Prc_changeRegister_104 rfl (lv_at hl 1 rfl) ?_
            refine lv_iload_n hx hb d_Prc_changeRegister_105 rfl (lv_at hl 2 rfl) ?_
            refine lv_iconst (v := (5 : Int32)) hx hb d_Prc_changeRegister_106 (by decide) ?_
            refine lv_ishr hx hb d_Prc_changeRegister_107 ?_
            refine lv_aload_n hx hb d_Prc_changeRegister_108 rfl (lv_at hl 1 rfl) ?_
            refine gt_Prc X hP 1 (by decide) (v := .ref (a 2)) q_195 rfl d_Prc_changeRegister_109 ?_
            refine kv_v (rest := [.int ((x1 >>> ((5 : Int32) &&& 31))), .ref (a 3), .ref (a 2)]) X hP hS (c_Reg_a l D cB cI a bz ha S) (kw_Reg_a hts q_396 ⟨Nat.le_of_ble_eq_true rfl, Nat.le_of_ble_eq_true rfl⟩) 2 rfl rfl rfl hl.1 rfl (lv_room (Nat.le_of_ble_eq_true rfl)) d_Prc_changeRegister_112 (fun H locs hP hS => ?_)
            refine lv_iload_n hx hb d_Prc_changeRegister_115 rfl (lv_at hl 0 rfl) ?_
            refine kv_vs (rest := [.ref (a 2)]) X hP hS (c_Prc_changed l D cB cI a bz ha S (x1 >>> ((5 : Int32) &&& 31)) (f_Reg_a S) (f_Reg_wideA S)) (kw_Prc_changed hts q_445 ⟨Nat.le_of_ble_eq_true rfl, Nat.le_of_ble_eq_true rfl⟩) 3 rfl rfl rfl hl.1 rfl (lv_room (Nat.le_of_ble_eq_true rfl)) d_Prc_changeRegister_116 (fun r26 S27 H locs e28 hP hS => ?_)
            refine kv_s (rest := []) X hP hS (c_Reg_loadA l D cB cI a bz ha S27 r26) (kw_Reg_loadA hts q_401 ⟨Nat.le_of_ble_eq_true rfl, Nat.le_of_ble_eq_true rfl⟩) 2 rfl rfl rfl hl.1 rfl (lv_room (Nat.le_of_ble_eq_true rfl)) d_Prc_changeRegister_119 (fun S29 H locs e30 hP hS => ?_)
            refine lv_goto (tgt := 251) hx hb d_Prc_changeRegister_122 rfl ?_
            refine lv_iconst (v := (1 : Int32)) hx hb d_Prc_changeRegister_251 (by decide) ?_
            exact rt_z X hr hk hP hS (by decide) (by rw [f_Prc_changeRegister, if_neg h1, if_neg h7, if_neg h13, if_neg h19, if_pos h25, bn_eq e28, bs_eq e30]) d_Prc_changeRegister_252
          ·
            by_cases h31 : x1 = (106 : Int32)
            ·
              refine sw_l (k := (106 : Int32)) (tgt := 100) hx hb d_Prc_changeRegister_9 h31 rfl ?_
              refine lv_aload_n hx hb d_Prc_changeRegister_100 rfl (lv_at hl 1 rfl) ?_
              refine gt_Prc X hP 1 (by decide) (v := .ref (a 2)) q_195 rfl d_Prc_changeRegister_101 ?_
              refine lv_aload_n hx hb d_Prc_changeRegister_104 rfl (lv_at hl 1 rfl) ?_
              refine lv_iload_n hx hb d_Prc_changeRegister_105 rfl (lv_at hl 2 rfl) ?_
              refine lv_iconst (v := (5 : Int32)) hx hb d_Prc_changeRegister_106 (by decide) ?_
              refine lv_ishr hx hb d_Prc_changeRegister_107 ?_
              refine lv_aload_n hx hb d_Prc_changeRegister_108 rfl (lv_at hl 1 rfl) ?_
              refine gt_Prc X hP 1 (by decide) (v := .ref (a 2)) q_195 rfl d_Prc_changeRegister_109 ?_
              refine kv_v (rest := [.int ((x1 >>> ((5 : Int32) &&& 31))), .ref (a 3), .ref (a 2)]) X hP hS (c_Reg_a l D cB cI a bz ha S) (kw_Reg_a hts q_396 ⟨Nat.le_of_ble_eq_true rfl, Nat.le_of_ble_eq_true rfl⟩) 2 rfl rfl rfl hl.1 rfl (lv_room (Nat.le_of_ble_eq_true rfl)) d_Prc_changeRegister_112 (fun H locs hP hS => ?_)
              refine lv_iload_n hx hb d_Prc_changeRegister_115 rfl (lv_at hl 0 rfl) ?_
              refine kv_vs (rest := [.ref (a 2)]) X hP hS (c_Prc_changed l D cB cI a bz ha S (x1 >>> ((5 : Int32) &&& 31)) (f_Reg_a S) (f_Reg_wideA S)) (kw_Prc_changed hts q_445 ⟨Nat.le_of_ble_eq_true rfl, Nat.le_of_ble_eq_true rfl⟩) 3 rfl rfl rfl hl.1 rfl (lv_room (Nat.le_of_ble_eq_true rfl)) d_Prc_changeRegister_116 (fun r32 S33 H locs e34 hP hS => ?_)
              refine kv_s (rest := []) X hP hS (c_Reg_loadA l D cB cI a bz ha S33 r32) (kw_Reg_loadA hts q_401 ⟨Nat.le_of_ble_eq_true rfl, Nat.le_of_ble_eq_true rfl⟩) 2 rfl rfl rfl hl.1 rfl (lv_room (Nat.le_of_ble_eq_true rfl)) d_Prc_changeRegister_119 (fun S35 H locs e36 hP hS => ?_)
              refine lv_goto (tgt := 251) hx hb d_Prc_changeRegister_122 rfl ?_
              refine lv_iconst (v := (1 : Int32)) hx hb d_Prc_changeRegister_251 (by decide) ?_
              exact rt_z X hr hk hP hS (by decide) (by rw [f_Prc_changeRegister, if_neg h1, if_neg h7, if_neg h13, if_neg h19, if_neg h25, if_pos h31, bn_eq e34, bs_eq e36]) d_Prc_changeRegister_252
            ·
              by_cases h37 : x1 = (136 : Int32)
              ·
                refine sw_l (k := (136 : Int32)) (tgt := 230) hx hb d_Prc_changeRegister_9 h37 rfl ?_
                refine lv_aload_n hx hb d_Prc_changeRegister_230 rfl (lv_at hl 1 rfl) ?_
                refine gt_Prc X hP 1 (by decide) (v := .ref (a 2)) q_195 rfl d_Prc_changeRegister_231 ?_
                refine lv_aload_n hx hb d_Prc_changeRegister_234 rfl (lv_at hl 1 rfl) ?_
                refine gt_Prc X hP 1 (by decide) (v := .ref (a 2)) q_195 rfl d_Prc_changeRegister_235 ?_
                refine gt_Reg X hP 2 (by decide) (v := .int (S.1 2)) q_117 rfl d_Prc_changeRegister_238 ?_
                refine lv_iconst (v := (1 : Int32)) hx hb d_Prc_changeRegister_241 (by decide) ?_
                refine lv_isub hx hb d_Prc_changeRegister_242 ?_
                refine kv_s (rest := []) X hP hS (c_Reg_loadY l D cB cI a bz ha S ((S.1 2) - (1 : Int32))) (kw_Reg_loadY hts q_433 ⟨Nat.le_of_ble_eq_true rfl, Nat.le_of_ble_eq_true rfl⟩) 2 rfl rfl rfl hl.1 rfl (lv_room (Nat.le_of_ble_eq_true rfl)) d_Prc_changeRegister_243 (fun S38 H locs e39 hP hS => ?_)
                refine lv_goto (tgt := 251) hx hb d_Prc_changeRegister_246 rfl ?_
                refine lv_iconst (v := (1 : Int32)) hx hb d_Prc_changeRegister_251 (by decide) ?_
                exact rt_z X hr hk hP hS (by decide) (by rw [f_Prc_changeRegister, if_neg h1, if_neg h7, if_neg h13, if_neg h19, if_neg h25, if_neg h31, if_pos h37, bs_eq e39]) d_Prc_changeRegister_252
              ·
                by_cases h40 : x1 = (200 : Int32)
                ·
                  refine sw_l (k := (200 : Int32)) (tgt := 192) hx hb d_Prc_changeRegister_9 h40 rfl ?_
                  refine lv_aload_n hx hb d_Prc_changeRegister_192 rfl (lv_at hl 1 rfl) ?_
                  refine gt_Prc X hP 1 (by decide) (v := .ref (a 2)) q_195 rfl d_Prc_changeRegister_193 ?_
                  refine lv_aload_n hx hb d_Prc_changeRegister_196 rfl (lv_at hl 1 rfl) ?_
                  refine gt_Prc X hP 1 (by decide) (v := .ref (a 2)) q_195 rfl d_Prc_changeRegister_197 ?_
                  refine gt_Reg X hP 2 (by decide) (v := .int (S.1 2)) q_117 rfl d_Prc_changeRegister_200 ?_
                  refine lv_iconst (v := (1 : Int32)) hx hb d_Prc_changeRegister_203 (by decide) ?_
                  refine lv_iadd hx hb d_Prc_changeRegister_204 ?_
                  refine kv_s (rest := []) X hP hS (c_Reg_loadY l D cB cI a bz ha S ((S.1 2) + (1 : Int32))) (kw_Reg_loadY hts q_433 ⟨Nat.le_of_ble_eq_true rfl, Nat.le_of_ble_eq_true rfl⟩) 2 rfl rfl rfl hl.1 rfl (lv_room (Nat.le_of_ble_eq_true rfl)) d_Prc_changeRegister_205 (fun S41 H locs e42 hP hS => ?_)
                  refine lv_goto (tgt := 251) hx hb d_Prc_changeRegister_208 rfl ?_
                  refine lv_iconst (v := (1 : Int32)) hx hb d_Prc_changeRegister_251 (by decide) ?_
                  exact rt_z X hr hk hP hS (by decide) (by rw [f_Prc_changeRegister, if_neg h1, if_neg h7, if_neg h13, if_neg h19, if_neg h25, if_neg h31, if_neg h37, if_pos h40, bs_eq e42]) d_Prc_changeRegister_252
                ·
                  by_cases h43 : x1 = (202 : Int32)
                  ·
                    refine sw_l (k := (202 : Int32)) (tgt := 211) hx hb d_Prc_changeRegister_9 h43 rfl ?_
                    refine lv_aload_n hx hb d_Prc_changeRegister_211 rfl (lv_at hl 1 rfl) ?_
                    refine gt_Prc X hP 1 (by decide) (v := .ref (a 2)) q_195 rfl d_Prc_changeRegister_212 ?_
                    refine lv_aload_n hx hb d_Prc_changeRegister_215 rfl (lv_at hl 1 rfl) ?_
                    refine gt_Prc X hP 1 (by decide) (v := .ref (a 2)) q_195 rfl d_Prc_changeRegister_216 ?_
                    refine gt_Reg X hP 1 (by decide) (v := .int (S.1 1)) q_113 rfl d_Prc_changeRegister_219 ?_
                    refine lv_iconst (v := (1 : Int32)) hx hb d_Prc_changeRegister_222 (by decide) ?_
                    refine lv_isub hx hb d_Prc_changeRegister_223 ?_
                    refine kv_s (rest := []) X hP hS (c_Reg_loadX l D cB cI a bz ha S ((S.1 1) - (1 : Int32))) (kw_Reg_loadX hts q_429 ⟨Nat.le_of_ble_eq_true rfl, Nat.le_of_ble_eq_true rfl⟩) 2 rfl rfl rfl hl.1 rfl (lv_room (Nat.le_of_ble_eq_true rfl)) d_Prc_changeRegister_224 (fun S44 H locs e45 hP hS => ?_)
                    refine lv_goto (tgt := 251) hx hb d_Prc_changeRegister_227 rfl ?_
                    refine lv_iconst (v := (1 : Int32)) hx hb d_Prc_changeRegister_251 (by decide) ?_
                    exact rt_z X hr hk hP hS (by decide) (by rw [f_Prc_changeRegister, if_neg h1, if_neg h7, if_neg h13, if_neg h19, if_neg h25, if_neg h31, if_neg h37, if_neg h40, if_pos h43, bs_eq e45]) d_Prc_changeRegister_252
                  ·
                    by_cases h46 : x1 = (232 : Int32)
                    ·
                      refine sw_l (k := (232 : Int32)) (tgt := 173) hx hb d_Prc_changeRegister_9 h46 rfl ?_
                      refine lv_aload_n hx hb d_Prc_changeRegister_173 rfl (lv_at hl 1 rfl) ?_
                      refine gt_Prc X hP 1 (by decide) (v := .ref (a 2)) q_195 rfl d_Prc_changeRegister_174 ?_
                      refine lv_aload_n hx hb d_Prc_changeRegister_177 rfl (lv_at hl 1 rfl) ?_
                      refine gt_Prc X hP 1 (by decide) (v := .ref (a 2)) q_195 rfl d_Prc_changeRegister_178 ?_
                      refine gt_Reg X hP 1 (by decide) (v := .int (S.1 1)) q_113 rfl d_Prc_changeRegister_181 ?_
                      refine lv_iconst (v := (1 : Int32)) hx hb d_Prc_changeRegister_184 (by decide) ?_
                      refine lv_iadd hx hb d_Prc_changeRegister_185 ?_
                      refine kv_s (rest := []) X hP hS (c_Reg_loadX l D cB cI a bz ha S ((S.1 1) + (1 : Int32))) (kw_Reg_loadX hts q_429 ⟨Nat.le_of_ble_eq_true rfl, Nat.le_of_ble_eq_true rfl⟩) 2 rfl rfl rfl hl.1 rfl (lv_room (Nat.le_of_ble_eq_true rfl)) d_Prc_changeRegister_186 (fun S47 H locs e48 hP hS => ?_)
                      refine lv_goto (tgt := 251) hx hb d_Prc_changeRegister_189 rfl ?_
                      refine lv_iconst (v := (1 : Int32)) hx hb d_Prc_changeRegister_251 (by decide) ?_
                      exact rt_z X hr hk hP hS (by decide) (by rw [f_Prc_changeRegister, if_neg h1, if_neg h7, if_neg h13, if_neg h19, if_neg h25, if_neg h31, if_neg h37, if_neg h40, if_neg h43, if_pos h46, bs_eq e48]) d_Prc_changeRegister_252
                    ·
                      refine sn_l (tgt := 249) hx hb d_Prc_changeRegister_9 rfl ⟨lv_neT h1 rfl, lv_neT h7 rfl, lv_neT h13 rfl, lv_neT h19 rfl, lv_neT h25 rfl, lv_neT h31 rfl, lv_neT h37 rfl, lv_neT h40 rfl, lv_neT h43 rfl, lv_neT h46 rfl, trivial⟩ rfl ?_
                      refine lv_iconst (v := (0 : Int32)) hx hb d_Prc_changeRegister_249 (by decide) ?_
                      exact rt_z X hr hk hP hS (by decide) (by rw [f_Prc_changeRegister, if_neg h1, if_neg h7, if_neg h13, if_neg h19, if_neg h25, if_neg h31, if_neg h37, if_neg h40, if_neg h43, if_neg h46]) d_Prc_changeRegister_250
set_option maxHeartbeats 4000000 in
set_option maxRecDepth 100000 in
theorem c_Prc_transfer (l : Launch) (D : va_G) (cB cI : ClassId) (a : Nat → Nat) (bz : Nat) (ha : ap a 8) (S : Sc) (x1 : Int32) : MI l y_Prc_transfer b_Prc_transfer 2 (some .boolean) rm_Prc_transfer [.ref (a 3), .int x1] D cB cI (wdC cB cI a) (ow a 8) bz S (f_Prc_transfer S x1) := by
  refine met_in R_Prc (by decide) rfl (Nat.le_of_ble_eq_true rfl) (wdC_D ha cB cI) ?_
  intro p e s m below meth c ls X hr hk hl hP hS
  have hx := X.1.1
  have hb := X.1.2.1
  have hown := X.1.2.2.2.1
  have hts := X.1.2.2.2.2
  have hl : lv_has ls 2 [(0, .ref (a 3)), (1, .int x1)] := hl
  refine lv_iload_n hx hb d_Prc_transfer_0 rfl (lv_at hl 1 rfl) ?_
  by_cases h1 : x1 = (27 : Int32)
  ·
    refine sw_l (k := (27 : Int32)) (tgt := 303) hx hb d_Prc_transfer_1 h1 rfl ?_
    refine lv_aload_n hx hb d_Prc_transfer_303 rfl (lv_at hl 0 rfl) ?_
    refine gt_Prc X hP 1 (by decide) (v := .ref (a 2)) q_195 rfl d_Prc_transfer_304 ?_
    refine lv_aload_n hx hb d_Prc_transfer_307 rfl (lv_at hl 0 rfl) ?_
    refine gt_Prc X hP 1 (by decide) (v := .ref (a 2)) q_195 rfl d_Prc_transfer_308 ?_
    refine gt_Reg X hP 0 (by decide) (v := .int (S.1 0)) q_108 rfl d_Prc_transfer_311 ?_
    refine pt_Reg X hP hS 3 (by decide) (v := S.1 0) (S1 := (pr S 3 (S.1 0))) q_123 rfl rfl rfl rfl d_Prc_transfer_314 (fun H locs hP hS => ?_)
    refine lv_goto (tgt := 376) hx hb d_Prc_transfer_317 rfl ?_
    refine lv_iconst (v := (1 : Int32)) hx hb d_Prc_transfer_376 (by decide) ?_
    exact rt_z X hr hk hP hS (by decide) (by rw [f_Prc_transfer, if_pos h1]) d_Prc_transfer_377
  ·
    by_cases h2 : x1 = (59 : Int32)
    ·
      refine sw_l (k := (59 : Int32)) (tgt := 269) hx hb d_Prc_transfer_1 h2 rfl ?_
      refine lv_aload_n hx hb d_Prc_transfer_269 rfl (lv_at hl 0 rfl) ?_
      refine gt_Prc X hP 1 (by decide) (v := .ref (a 2)) q_195 rfl d_Prc_transfer_270 ?_
      refine lv_aload_n hx hb d_Prc_transfer_273 rfl (lv_at hl 0 rfl) ?_
      refine gt_Prc X hP 1 (by decide) (v := .ref (a 2)) q_195 rfl d_Prc_transfer_274 ?_
      refine gt_Reg X hP 3 (by decide) (v := .int (S.1 3)) q_123 rfl d_Prc_transfer_277 ?_
      refine kv_s (rest := []) X hP hS (c_Reg_loadC l D cB cI a bz ha S (S.1 3)) (kw_Reg_loadC hts q_461 ⟨Nat.le_of_ble_eq_true rfl, Nat.le_of_ble_eq_true rfl⟩) 2 rfl rfl rfl hl.1 rfl (lv_room (Nat.le_of_ble_eq_true rfl)) d_Prc_transfer_280 (fun S3 H locs e4 hP hS => ?_)
      refine lv_goto (tgt := 376) hx hb d_Prc_transfer_283 rfl ?_
      refine lv_iconst (v := (1 : Int32)) hx hb d_Prc_transfer_376 (by decide) ?_
      exact rt_z X hr hk hP hS (by decide) (by rw [f_Prc_transfer, if_neg h1, if_pos h2, bs_eq e4]) d_Prc_transfer_377
    ·
      by_cases h5 : x1 = (91 : Int32)
      ·
        refine sw_l (k := (91 : Int32)) (tgt := 235) hx hb d_Prc_transfer_1 h5 rfl ?_
        refine lv_aload_n hx hb d_Prc_transfer_235 rfl (lv_at hl 0 rfl) ?_
        refine gt_Prc X hP 1 (by decide) (v := .ref (a 2)) q_195 rfl d_Prc_transfer_236 ?_
        refine lv_aload_n hx hb d_Prc_transfer_239 rfl (lv_at hl 0 rfl) ?_
        refine gt_Prc X hP 1 (by decide) (v := .ref (a 2)) q_195 rfl d_Prc_transfer_240 ?_
        refine gt_Reg X hP 0 (by decide) (v := .int (S.1 0)) q_108 rfl d_Prc_transfer_243 ?_
        refine kv_s (rest := []) X hP hS (c_Reg_loadD l D cB cI a bz ha S (S.1 0)) (kw_Reg_loadD hts q_457 ⟨Nat.le_of_ble_eq_true rfl, Nat.le_of_ble_eq_true rfl⟩) 2 rfl rfl rfl hl.1 rfl (lv_room (Nat.le_of_ble_eq_true rfl)) d_Prc_transfer_246 (fun S6 H locs e7 hP hS => ?_)
        refine lv_goto (tgt := 376) hx hb d_Prc_transfer_249 rfl ?_
        refine lv_iconst (v := (1 : Int32)) hx hb d_Prc_transfer_376 (by decide) ?_
        exact rt_z X hr hk hP hS (by decide) (by rw [f_Prc_transfer, if_neg h1, if_neg h2, if_pos h5, bs_eq e7]) d_Prc_transfer_377
      ·
        by_cases h8 : x1 = (123 : Int32)
        ·
          refine sw_l (k := (123 : Int32)) (tgt := 252) hx hb d_Prc_transfer_1 h8 rfl ?_
          refine lv_aload_n hx hb d_Prc_transfer_252 rfl (lv_at hl 0 rfl) ?_
          refine gt_Prc X hP 1 (by decide) (v := .ref (a 2)) q_195 rfl d_Prc_transfer_253 ?_
          refine lv_aload_n hx hb d_Prc_transfer_256 rfl (lv_at hl 0 rfl) ?_
          refine gt_Prc X hP 1 (by decide) (v := .ref (a 2)) q_195 rfl d_Prc_transfer_257 ?_
          refine gt_Reg X hP 4 (by decide) (v := .int (S.1 4)) q_126 rfl d_Prc_transfer_260 ?_
          refine kv_s (rest := []) X hP hS (c_Reg_loadC l D cB cI a bz ha S (S.1 4)) (kw_Reg_loadC hts q_461 ⟨Nat.le_of_ble_eq_true rfl, Nat.le_of_ble_eq_true rfl⟩) 2 rfl rfl rfl hl.1 rfl (lv_room (Nat.le_of_ble_eq_true rfl)) d_Prc_transfer_263 (fun S9 H locs e10 hP hS => ?_)
          refine lv_goto (tgt := 376) hx hb d_Prc_transfer_266 rfl ?_
          refine lv_iconst (v := (1 : Int32)) hx hb d_Prc_transfer_376 (by decide) ?_
          exact rt_z X hr hk hP hS (by decide) (by rw [f_Prc_transfer, if_neg h1, if_neg h2, if_neg h5, if_pos h8, bs_eq e10]) d_Prc_transfer_377
        ·
          by_cases h11 : x1 = (138 : Int32)
          ·
            refine sw_l (k := (138 : Int32)) (tgt := 201) hx hb d_Prc_transfer_1 h11 rfl ?_
            refine lv_aload_n hx hb d_Prc_transfer_201 rfl (lv_at hl 0 rfl) ?_
            refine gt_Prc X hP 1 (by decide) (v := .ref (a 2)) q_195 rfl d_Prc_transfer_202 ?_
            refine lv_aload_n hx hb d_Prc_transfer_205 rfl (lv_at hl 0 rfl) ?_
            refine gt_Prc X hP 1 (by decide) (v := .ref (a 2)) q_195 rfl d_Prc_transfer_206 ?_
            refine gt_Reg X hP 1 (by decide) (v := .int (S.1 1)) q_113 rfl d_Prc_transfer_209 ?_
            refine kv_s (rest := []) X hP hS (c_Reg_loadA l D cB cI a bz ha S (S.1 1)) (kw_Reg_loadA hts q_401 ⟨Nat.le_of_ble_eq_true rfl, Nat.le_of_ble_eq_true rfl⟩) 2 rfl rfl rfl hl.1 rfl (lv_room (Nat.le_of_ble_eq_true rfl)) d_Prc_transfer_212 (fun S12 H locs e13 hP hS => ?_)
            refine lv_goto (tgt := 376) hx hb d_Prc_transfer_215 rfl ?_
            refine lv_iconst (v := (1 : Int32)) hx hb d_Prc_transfer_376 (by decide) ?_
            exact rt_z X hr hk hP hS (by decide) (by rw [f_Prc_transfer, if_neg h1, if_neg h2, if_neg h5, if_neg h8, if_pos h11, bs_eq e13]) d_Prc_transfer_377
          ·
            by_cases h14 : x1 = (152 : Int32)
            ·
              refine sw_l (k := (152 : Int32)) (tgt := 218) hx hb d_Prc_transfer_1 h14 rfl ?_
              refine lv_aload_n hx hb d_Prc_transfer_218 rfl (lv_at hl 0 rfl) ?_
              refine gt_Prc X hP 1 (by decide) (v := .ref (a 2)) q_195 rfl d_Prc_transfer_219 ?_
              refine lv_aload_n hx hb d_Prc_transfer_222 rfl (lv_at hl 0 rfl) ?_
              refine gt_Prc X hP 1 (by decide) (v := .ref (a 2)) q_195 rfl d_Prc_transfer_223 ?_
              refine gt_Reg X hP 2 (by decide) (v := .int (S.1 2)) q_117 rfl d_Prc_transfer_226 ?_
              refine kv_s (rest := []) X hP hS (c_Reg_loadA l D cB cI a bz ha S (S.1 2)) (kw_Reg_loadA hts q_401 ⟨Nat.le_of_ble_eq_true rfl, Nat.le_of_ble_eq_true rfl⟩) 2 rfl rfl rfl hl.1 rfl (lv_room (Nat.le_of_ble_eq_true rfl)) d_Prc_transfer_229 (fun S15 H locs e16 hP hS => ?_)
              refine lv_goto (tgt := 376) hx hb d_Prc_transfer_232 rfl ?_
              refine lv_iconst (v := (1 : Int32)) hx hb d_Prc_transfer_376 (by decide) ?_
              exact rt_z X hr hk hP hS (by decide) (by rw [f_Prc_transfer, if_neg h1, if_neg h2, if_neg h5, if_neg h8, if_neg h11, if_pos h14, bs_eq e16]) d_Prc_transfer_377
            ·
              by_cases h17 : x1 = (154 : Int32)
              ·
                refine sw_l (k := (154 : Int32)) (tgt := 286) hx hb d_Prc_transfer_1 h17 rfl ?_
                refine lv_aload_n hx hb d_Prc_transfer_286 rfl (lv_at hl 0 rfl) ?_
                refine gt_Prc X hP 1 (by decide) (v := .ref (a 2)) q_195 rfl d_Prc_transfer_287 ?_
                refine lv_aload_n hx hb d_Prc_transfer_290 rfl (lv_at hl 0 rfl) ?_
                refine gt_Prc X hP 1 (by decide) (v := .ref (a 2)) q_195 rfl d_Prc_transfer_291 ?_
                refine gt_Reg X hP 1 (by decide) (v := .int (S.1 1)) q_113 rfl d_Prc_transfer_294 ?_
                refine pt_Reg X hP hS 3 (by decide) (v := S.1 1) (S1 := (pr S 3 (S.1 1))) q_123 rfl rfl rfl rfl d_Prc_transfer_297 (fun H locs hP hS => ?_)
                refine lv_goto (tgt := 376) hx hb d_Prc_transfer_300 rfl ?_
                refine lv_iconst (v := (1 : Int32)) hx hb d_Prc_transfer_376 (by decide) ?_
                exact rt_z X hr hk hP hS (by decide) (by rw [f_Prc_transfer, if_neg h1, if_neg h2, if_neg h5, if_neg h8, if_neg h11, if_neg h14, if_pos h17]) d_Prc_transfer_377
              ·
                by_cases h18 : x1 = (155 : Int32)
                ·
                  refine sw_l (k := (155 : Int32)) (tgt := 167) hx hb d_Prc_transfer_1 h18 rfl ?_
                  refine lv_aload_n hx hb d_Prc_transfer_167 rfl (lv_at hl 0 rfl) ?_
                  refine gt_Prc X hP 1 (by decide) (v := .ref (a 2)) q_195 rfl d_Prc_transfer_168 ?_
                  refine lv_aload_n hx hb d_Prc_transfer_171 rfl (lv_at hl 0 rfl) ?_
                  refine gt_Prc X hP 1 (by decide) (v := .ref (a 2)) q_195 rfl d_Prc_transfer_172 ?_
                  refine gt_Reg X hP 1 (by decide) (v := .int (S.1 1)) q_113 rfl d_Prc_transfer_175 ?_
                  refine kv_s (rest := []) X hP hS (c_Reg_loadY l D cB cI a bz ha S (S.1 1)) (kw_Reg_loadY hts q_433 ⟨Nat.le_of_ble_eq_true rfl, Nat.le_of_ble_eq_true rfl⟩) 2 rfl rfl rfl hl.1 rfl (lv_room (Nat.le_of_ble_eq_true rfl)) d_Prc_transfer_178 (fun S19 H locs e20 hP hS => ?_)
                  refine lv_goto (tgt := 376) hx hb d_Prc_transfer_181 rfl ?_
                  refine lv_iconst (v := (1 : Int32)) hx hb d_Prc_transfer_376 (by decide) ?_
                  exact rt_z X hr hk hP hS (by decide) (by rw [f_Prc_transfer, if_neg h1, if_neg h2, if_neg h5, if_neg h8, if_neg h11, if_neg h14, if_neg h17, if_pos h18, bs_eq e20]) d_Prc_transfer_377
                ·
                  by_cases h21 : x1 = (168 : Int32)
                  ·
                    refine sw_l (k := (168 : Int32)) (tgt := 133) hx hb d_Prc_transfer_1 h21 rfl ?_
                    refine lv_aload_n hx hb d_Prc_transfer_133 rfl (lv_at hl 0 rfl) ?_
                    refine gt_Prc X hP 1 (by decide) (v := .ref (a 2)) q_195 rfl d_Prc_transfer_134 ?_
                    refine lv_aload_n hx hb d_Prc_transfer_137 rfl (lv_at hl 0 rfl) ?_
                    refine gt_Prc X hP 1 (by decide) (v := .ref (a 2)) q_195 rfl d_Prc_transfer_138 ?_
                    refine gt_Reg X hP 0 (by decide) (v := .int (S.1 0)) q_108 rfl d_Prc_transfer_141 ?_
                    refine kv_s (rest := []) X hP hS (c_Reg_loadY l D cB cI a bz ha S (S.1 0)) (kw_Reg_loadY hts q_433 ⟨Nat.le_of_ble_eq_true rfl, Nat.le_of_ble_eq_true rfl⟩) 2 rfl rfl rfl hl.1 rfl (lv_room (Nat.le_of_ble_eq_true rfl)) d_Prc_transfer_144 (fun S22 H locs e23 hP hS => ?_)
                    refine lv_goto (tgt := 376) hx hb d_Prc_transfer_147 rfl ?_
                    refine lv_iconst (v := (1 : Int32)) hx hb d_Prc_transfer_376 (by decide) ?_
                    exact rt_z X hr hk hP hS (by decide) (by rw [f_Prc_transfer, if_neg h1, if_neg h2, if_neg h5, if_neg h8, if_neg h11, if_neg h14, if_neg h17, if_neg h18, if_pos h21, bs_eq e23]) d_Prc_transfer_377
                  ·
                    by_cases h24 : x1 = (170 : Int32)
                    ·
                      refine sw_l (k := (170 : Int32)) (tgt := 116) hx hb d_Prc_transfer_1 h24 rfl ?_
                      refine lv_aload_n hx hb d_Prc_transfer_116 rfl (lv_at hl 0 rfl) ?_
                      refine gt_Prc X hP 1 (by decide) (v := .ref (a 2)) q_195 rfl d_Prc_transfer_117 ?_
                      refine lv_aload_n hx hb d_Prc_transfer_120 rfl (lv_at hl 0 rfl) ?_
                      refine gt_Prc X hP 1 (by decide) (v := .ref (a 2)) q_195 rfl d_Prc_transfer_121 ?_
                      refine gt_Reg X hP 0 (by decide) (v := .int (S.1 0)) q_108 rfl d_Prc_transfer_124 ?_
                      refine kv_s (rest := []) X hP hS (c_Reg_loadX l D cB cI a bz ha S (S.1 0)) (kw_Reg_loadX hts q_429 ⟨Nat.le_of_ble_eq_true rfl, Nat.le_of_ble_eq_true rfl⟩) 2 rfl rfl rfl hl.1 rfl (lv_room (Nat.le_of_ble_eq_true rfl)) d_Prc_transfer_127 (fun S25 H locs e26 hP hS => ?_)
                      refine lv_goto (tgt := 376) hx hb d_Prc_transfer_130 rfl ?_
                      refine lv_iconst (v := (1 : Int32)) hx hb d_Prc_transfer_376 (by decide) ?_
                      exact rt_z X hr hk hP hS (by decide) (by rw [f_Prc_transfer, if_neg h1, if_neg h2, if_neg h5, if_neg h8, if_neg h11, if_neg h14, if_neg h17, if_neg h18, if_neg h21, if_pos h24, bs_eq e26]) d_Prc_transfer_377
                    ·
                      by_cases h27 : x1 = (186 : Int32)
                      ·
                        refine sw_l (k := (186 : Int32)) (tgt := 150) hx hb d_Prc_transfer_1 h27 rfl ?_
                        refine lv_aload_n hx hb d_Prc_transfer_150 rfl (lv_at hl 0 rfl) ?_
                        refine gt_Prc X hP 1 (by decide) (v := .ref (a 2)) q_195 rfl d_Prc_transfer_151 ?_
                        refine lv_aload_n hx hb d_Prc_transfer_154 rfl (lv_at hl 0 rfl) ?_
                        refine gt_Prc X hP 1 (by decide) (v := .ref (a 2)) q_195 rfl d_Prc_transfer_155 ?_
                        refine gt_Reg X hP 3 (by decide) (v := .int (S.1 3)) q_123 rfl d_Prc_transfer_158 ?_
                        refine kv_s (rest := []) X hP hS (c_Reg_loadX l D cB cI a bz ha S (S.1 3)) (kw_Reg_loadX hts q_429 ⟨Nat.le_of_ble_eq_true rfl, Nat.le_of_ble_eq_true rfl⟩) 2 rfl rfl rfl hl.1 rfl (lv_room (Nat.le_of_ble_eq_true rfl)) d_Prc_transfer_161 (fun S28 H locs e29 hP hS => ?_)
                        refine lv_goto (tgt := 376) hx hb d_Prc_transfer_164 rfl ?_
                        refine lv_iconst (v := (1 : Int32)) hx hb d_Prc_transfer_376 (by decide) ?_
                        exact rt_z X hr hk hP hS (by decide) (by rw [f_Prc_transfer, if_neg h1, if_neg h2, if_neg h5, if_neg h8, if_neg h11, if_neg h14, if_neg h17, if_neg h18, if_neg h21, if_neg h24, if_pos h27, bs_eq e29]) d_Prc_transfer_377
                      ·
                        by_cases h30 : x1 = (187 : Int32)
                        ·
                          refine sw_l (k := (187 : Int32)) (tgt := 184) hx hb d_Prc_transfer_1 h30 rfl ?_
                          refine lv_aload_n hx hb d_Prc_transfer_184 rfl (lv_at hl 0 rfl) ?_
                          refine gt_Prc X hP 1 (by decide) (v := .ref (a 2)) q_195 rfl d_Prc_transfer_185 ?_
                          refine lv_aload_n hx hb d_Prc_transfer_188 rfl (lv_at hl 0 rfl) ?_
                          refine gt_Prc X hP 1 (by decide) (v := .ref (a 2)) q_195 rfl d_Prc_transfer_189 ?_
                          refine gt_Reg X hP 2 (by decide) (v := .int (S.1 2)) q_117 rfl d_Prc_transfer_192 ?_
                          refine kv_s (rest := []) X hP hS (c_Reg_loadX l D cB cI a bz ha S (S.1 2)) (kw_Reg_loadX hts q_429 ⟨Nat.le_of_ble_eq_true rfl, Nat.le_of_ble_eq_true rfl⟩) 2 rfl rfl rfl hl.1 rfl (lv_room (Nat.le_of_ble_eq_true rfl)) d_Prc_transfer_195 (fun S31 H locs e32 hP hS => ?_)
                          refine lv_goto (tgt := 376) hx hb d_Prc_transfer_198 rfl ?_
                          refine lv_iconst (v := (1 : Int32)) hx hb d_Prc_transfer_376 (by decide) ?_
                          exact rt_z X hr hk hP hS (by decide) (by rw [f_Prc_transfer, if_neg h1, if_neg h2, if_neg h5, if_neg h8, if_neg h11, if_neg h14, if_neg h17, if_neg h18, if_neg h21, if_neg h24, if_neg h27, if_pos h30, bs_eq e32]) d_Prc_transfer_377
                        ·
                          by_cases h33 : x1 = (235 : Int32)
                          ·
                            refine sw_l (k := (235 : Int32)) (tgt := 320) hx hb d_Prc_transfer_1 h33 rfl ?_
                            refine lv_aload_n hx hb d_Prc_transfer_320 rfl (lv_at hl 0 rfl) ?_
                            refine gt_Prc X hP 1 (by decide) (v := .ref (a 2)) q_195 rfl d_Prc_transfer_321 ?_
                            refine lv_aload_n hx hb d_Prc_transfer_324 rfl (lv_at hl 0 rfl) ?_
                            refine gt_Prc X hP 1 (by decide) (v := .ref (a 2)) q_195 rfl d_Prc_transfer_325 ?_
                            refine gt_Reg X hP 0 (by decide) (v := .int (S.1 0)) q_108 rfl d_Prc_transfer_328 ?_
                            refine lv_bipush (v := (8 : Int32)) hx hb d_Prc_transfer_331 (by decide) ?_
                            refine lv_ishr hx hb d_Prc_transfer_333 ?_
                            refine lv_aload_n hx hb d_Prc_transfer_334 rfl (lv_at hl 0 rfl) ?_
                            refine gt_Prc X hP 1 (by decide) (v := .ref (a 2)) q_195 rfl d_Prc_transfer_335 ?_
                            refine gt_Reg X hP 0 (by decide) (v := .int (S.1 0)) q_108 rfl d_Prc_transfer_338 ?_
                            refine lv_sipush (v := (255 : Int32)) hx hb d_Prc_transfer_341 (by decide) ?_
                            refine lv_iand hx hb d_Prc_transfer_344 ?_
                            refine lv_bipush (v := (8 : Int32)) hx hb d_Prc_transfer_345 (by decide) ?_
                            refine lv_ishl hx hb d_Prc_transfer_347 ?_
                            refine lv_ior hx hb d_Prc_transfer_348 ?_
                            refine pt_Reg X hP hS 0 (by decide) (v := (((S.1 0) >>> ((8 : Int32) &&& 31)) ||| (((S.1 0) &&& (255 : Int32)) <<< ((8 : Int32) &&& 31)))) (S1 := (pr S 0 ((((S.1 0) >>> ((8 : Int32) &&& 31)) ||| (((S.1 0) &&& (255 : Int32)) <<< ((8 : Int32) &&& 31)))))) q_108 rfl rfl rfl rfl d_Prc_transfer_349 (fun H locs hP hS => ?_)
                            refine lv_aload_n hx hb d_Prc_transfer_352 rfl (lv_at hl 0 rfl) ?_
                            refine gt_Prc X hP 1 (by decide) (v := .ref (a 2)) q_195 rfl d_Prc_transfer_353 ?_
                            refine lv_aload_n hx hb d_Prc_transfer_356 rfl (lv_at hl 0 rfl) ?_
                            refine gt_Prc X hP 1 (by decide) (v := .ref (a 2)) q_195 rfl d_Prc_transfer_357 ?_
                            refine gt_Reg X hP 0 (by decide) (v := .int ((((S.1 0) >>> ((8 : Int32) &&& 31)) ||| (((S.1 0) &&& (255 : Int32)) <<< ((8 : Int32) &&& 31))))) q_108 rfl d_Prc_transfer_360 ?_
                            refine lv_sipush (v := (255 : Int32)) hx hb d_Prc_transfer_363 (by decide) ?_
                            refine lv_iand hx hb d_Prc_transfer_366 ?_
                            refine lv_iconst (v := (0 : Int32)) hx hb d_Prc_transfer_367 (by decide) ?_
                            refine kv_s (rest := []) X hP hS (c_Reg_showResult l D cB cI a bz ha (pr S 0 ((((S.1 0) >>> ((8 : Int32) &&& 31)) ||| (((S.1 0) &&& (255 : Int32)) <<< ((8 : Int32) &&& 31))))) ((((S.1 0) >>> ((8 : Int32) &&& 31)) ||| (((S.1 0) &&& (255 : Int32)) <<< ((8 : Int32) &&& 31))) &&& (255 : Int32)) (0 : Int32)) (kw_Reg_showResult hts q_423 ⟨Nat.le_of_ble_eq_true rfl, Nat.le_of_ble_eq_true rfl⟩) 2 rfl rfl rfl hl.1 rfl (lv_room (Nat.le_of_ble_eq_true rfl)) d_Prc_transfer_368 (fun S34 H locs e35 hP hS => ?_)
                            refine lv_goto (tgt := 376) hx hb d_Prc_transfer_371 rfl ?_
                            refine lv_iconst (v := (1 : Int32)) hx hb d_Prc_transfer_376 (by decide) ?_
                            exact rt_z X hr hk hP hS (by decide) (by rw [f_Prc_transfer, if_neg h1, if_neg h2, if_neg h5, if_neg h8, if_neg h11, if_neg h14, if_neg h17, if_neg h18, if_neg h21, if_neg h24, if_neg h27, if_neg h30, if_pos h33, bs_eq e35]) d_Prc_transfer_377
                          ·
                            refine sn_l (tgt := 374) hx hb d_Prc_transfer_1 rfl ⟨lv_neT h1 rfl, lv_neT h2 rfl, lv_neT h5 rfl, lv_neT h8 rfl, lv_neT h11 rfl, lv_neT h14 rfl, lv_neT h17 rfl, lv_neT h18 rfl, lv_neT h21 rfl, lv_neT h24 rfl, lv_neT h27 rfl, lv_neT h30 rfl, lv_neT h33 rfl, trivial⟩ rfl ?_
                            refine lv_iconst (v := (0 : Int32)) hx hb d_Prc_transfer_374 (by decide) ?_
                            exact rt_z X hr hk hP hS (by decide) (by rw [f_Prc_transfer, if_neg h1, if_neg h2, if_neg h5, if_neg h8, if_neg h11, if_neg h14, if_neg h17, if_neg h18, if_neg h21, if_neg h24, if_neg h27, if_neg h30, if_neg h33]) d_Prc_transfer_375
set_option maxHeartbeats 4000000 in
set_option maxRecDepth 100000 in
theorem c_Prc_push (l : Launch) (D : va_G) (cB cI : ClassId) (a : Nat → Nat) (bz : Nat) (ha : ap a 8) (S : Sc) (x1 : Int32) : MI l y_Prc_push b_Prc_push 2 (some .boolean) rm_Prc_push [.ref (a 3), .int x1] D cB cI (wdC cB cI a) (ow a 8) bz S (f_Prc_push S x1) := by
  refine met_in R_Prc (by decide) rfl (Nat.le_of_ble_eq_true rfl) (wdC_D ha cB cI) ?_
  intro p e s m below meth c ls X hr hk hl hP hS
  have hx := X.1.1
  have hb := X.1.2.1
  have hown := X.1.2.2.2.1
  have hts := X.1.2.2.2.2
  have hl : lv_has ls 2 [(0, .ref (a 3)), (1, .int x1)] := hl
  refine lv_iload_n hx hb d_Prc_push_0 rfl (lv_at hl 1 rfl) ?_
  by_cases h1 : x1 = (8 : Int32)
  ·
    refine sw_l (k := (8 : Int32)) (tgt := 148) hx hb d_Prc_push_1 h1 rfl ?_
    refine lv_aload_n hx hb d_Prc_push_148 rfl (lv_at hl 0 rfl) ?_
    refine gt_Prc X hP 3 (by decide) (v := .ref (a 5)) q_197 rfl d_Prc_push_149 ?_
    refine lv_aload_n hx hb d_Prc_push_152 rfl (lv_at hl 0 rfl) ?_
    refine gt_Prc X hP 1 (by decide) (v := .ref (a 2)) q_195 rfl d_Prc_push_153 ?_
    refine gt_Reg X hP 8 (by decide) (v := .int (S.1 8)) q_141 rfl d_Prc_push_156 ?_
    refine kv_s (rest := []) X hP hS (c_Stk_pushByte l D cB cI a bz ha S (S.1 8)) (kw_Stk_pushByte hts q_283 ⟨Nat.le_of_ble_eq_true rfl, Nat.le_of_ble_eq_true rfl⟩) 5 rfl rfl rfl hl.1 rfl (lv_room (Nat.le_of_ble_eq_true rfl)) d_Prc_push_159 (fun S2 H locs e3 hP hS => ?_)
    refine lv_goto (tgt := 235) hx hb d_Prc_push_162 rfl ?_
    refine lv_iconst (v := (1 : Int32)) hx hb d_Prc_push_235 (by decide) ?_
    exact rt_z X hr hk hP hS (by decide) (by rw [f_Prc_push, if_pos h1, bs_eq e3]) d_Prc_push_236
  ·
    by_cases h4 : x1 = (11 : Int32)
    ·
      refine sw_l (k := (11 : Int32)) (tgt := 199) hx hb d_Prc_push_1 h4 rfl ?_
      refine lv_aload_n hx hb d_Prc_push_199 rfl (lv_at hl 0 rfl) ?_
      refine gt_Prc X hP 3 (by decide) (v := .ref (a 5)) q_197 rfl d_Prc_push_200 ?_
      refine lv_aload_n hx hb d_Prc_push_203 rfl (lv_at hl 0 rfl) ?_
      refine gt_Prc X hP 1 (by decide) (v := .ref (a 2)) q_195 rfl d_Prc_push_204 ?_
      refine gt_Reg X hP 4 (by decide) (v := .int (S.1 4)) q_126 rfl d_Prc_push_207 ?_
      refine kv_s (rest := []) X hP hS (c_Stk_pushWord l D cB cI a bz ha S (S.1 4)) (kw_Stk_pushWord hts q_300 ⟨Nat.le_of_ble_eq_true rfl, Nat.le_of_ble_eq_true rfl⟩) 5 rfl rfl rfl hl.1 rfl (lv_room (Nat.le_of_ble_eq_true rfl)) d_Prc_push_210 (fun S5 H locs e6 hP hS => ?_)
      refine lv_goto (tgt := 235) hx hb d_Prc_push_213 rfl ?_
      refine lv_iconst (v := (1 : Int32)) hx hb d_Prc_push_235 (by decide) ?_
      exact rt_z X hr hk hP hS (by decide) (by rw [f_Prc_push, if_neg h1, if_pos h4, bs_eq e6]) d_Prc_push_236
    ·
      by_cases h7 : x1 = (72 : Int32)
      ·
        refine sw_l (k := (72 : Int32)) (tgt := 76) hx hb d_Prc_push_1 h7 rfl ?_
        refine lv_aload_n hx hb d_Prc_push_76 rfl (lv_at hl 0 rfl) ?_
        refine gt_Prc X hP 3 (by decide) (v := .ref (a 5)) q_197 rfl d_Prc_push_77 ?_
        refine lv_aload_n hx hb d_Prc_push_80 rfl (lv_at hl 0 rfl) ?_
        refine gt_Prc X hP 1 (by decide) (v := .ref (a 2)) q_195 rfl d_Prc_push_81 ?_
        refine gt_Reg X hP 0 (by decide) (v := .int (S.1 0)) q_108 rfl d_Prc_push_84 ?_
        refine lv_aload_n hx hb d_Prc_push_87 rfl (lv_at hl 0 rfl) ?_
        refine gt_Prc X hP 1 (by decide) (v := .ref (a 2)) q_195 rfl d_Prc_push_88 ?_
        refine kv_v (rest := [.int (S.1 0), .ref (a 5)]) X hP hS (c_Reg_wideA l D cB cI a bz ha S) (kw_Reg_wideA hts q_346 ⟨Nat.le_of_ble_eq_true rfl, Nat.le_of_ble_eq_true rfl⟩) 2 rfl rfl rfl hl.1 rfl (lv_room (Nat.le_of_ble_eq_true rfl)) d_Prc_push_91 (fun H locs hP hS => ?_)
        refine kv_s (rest := []) X hP hS (c_Stk_pushValue l D cB cI a bz ha S (S.1 0) (f_Reg_wideA S)) (kw_Stk_pushValue hts q_469 ⟨Nat.le_of_ble_eq_true rfl, Nat.le_of_ble_eq_true rfl⟩) 5 rfl rfl rfl hl.1 rfl (lv_room (Nat.le_of_ble_eq_true rfl)) d_Prc_push_94 (fun S8 H locs e9 hP hS => ?_)
        refine lv_goto (tgt := 235) hx hb d_Prc_push_97 rfl ?_
        refine lv_iconst (v := (1 : Int32)) hx hb d_Prc_push_235 (by decide) ?_
        exact rt_z X hr hk hP hS (by decide) (by rw [f_Prc_push, if_neg h1, if_neg h4, if_pos h7, bs_eq e9]) d_Prc_push_236
      ·
        by_cases h10 : x1 = (75 : Int32)
        ·
          refine sw_l (k := (75 : Int32)) (tgt := 182) hx hb d_Prc_push_1 h10 rfl ?_
          refine lv_aload_n hx hb d_Prc_push_182 rfl (lv_at hl 0 rfl) ?_
          refine gt_Prc X hP 3 (by decide) (v := .ref (a 5)) q_197 rfl d_Prc_push_183 ?_
          refine lv_aload_n hx hb d_Prc_push_186 rfl (lv_at hl 0 rfl) ?_
          refine gt_Prc X hP 1 (by decide) (v := .ref (a 2)) q_195 rfl d_Prc_push_187 ?_
          refine gt_Reg X hP 6 (by decide) (v := .int (S.1 6)) q_132 rfl d_Prc_push_190 ?_
          refine kv_s (rest := []) X hP hS (c_Stk_pushByte l D cB cI a bz ha S (S.1 6)) (kw_Stk_pushByte hts q_283 ⟨Nat.le_of_ble_eq_true rfl, Nat.le_of_ble_eq_true rfl⟩) 5 rfl rfl rfl hl.1 rfl (lv_room (Nat.le_of_ble_eq_true rfl)) d_Prc_push_193 (fun S11 H locs e12 hP hS => ?_)
          refine lv_goto (tgt := 235) hx hb d_Prc_push_196 rfl ?_
          refine lv_iconst (v := (1 : Int32)) hx hb d_Prc_push_235 (by decide) ?_
          exact rt_z X hr hk hP hS (by decide) (by rw [f_Prc_push, if_neg h1, if_neg h4, if_neg h7, if_pos h10, bs_eq e12]) d_Prc_push_236
        ·
          by_cases h13 : x1 = (90 : Int32)
          ·
            refine sw_l (k := (90 : Int32)) (tgt := 124) hx hb d_Prc_push_1 h13 rfl ?_
            refine lv_aload_n hx hb d_Prc_push_124 rfl (lv_at hl 0 rfl) ?_
            refine gt_Prc X hP 3 (by decide) (v := .ref (a 5)) q_197 rfl d_Prc_push_125 ?_
            refine lv_aload_n hx hb d_Prc_push_128 rfl (lv_at hl 0 rfl) ?_
            refine gt_Prc X hP 1 (by decide) (v := .ref (a 2)) q_195 rfl d_Prc_push_129 ?_
            refine gt_Reg X hP 2 (by decide) (v := .int (S.1 2)) q_117 rfl d_Prc_push_132 ?_
            refine lv_aload_n hx hb d_Prc_push_135 rfl (lv_at hl 0 rfl) ?_
            refine gt_Prc X hP 1 (by decide) (v := .ref (a 2)) q_195 rfl d_Prc_push_136 ?_
            refine kv_v (rest := [.int (S.1 2), .ref (a 5)]) X hP hS (c_Reg_wideIndex l D cB cI a bz ha S) (kw_Reg_wideIndex hts q_428 ⟨Nat.le_of_ble_eq_true rfl, Nat.le_of_ble_eq_true rfl⟩) 2 rfl rfl rfl hl.1 rfl (lv_room (Nat.le_of_ble_eq_true rfl)) d_Prc_push_139 (fun H locs hP hS => ?_)
            refine kv_s (rest := []) X hP hS (c_Stk_pushValue l D cB cI a bz ha S (S.1 2) (f_Reg_wideIndex S)) (kw_Stk_pushValue hts q_469 ⟨Nat.le_of_ble_eq_true rfl, Nat.le_of_ble_eq_true rfl⟩) 5 rfl rfl rfl hl.1 rfl (lv_room (Nat.le_of_ble_eq_true rfl)) d_Prc_push_142 (fun S14 H locs e15 hP hS => ?_)
            refine lv_goto (tgt := 235) hx hb d_Prc_push_145 rfl ?_
            refine lv_iconst (v := (1 : Int32)) hx hb d_Prc_push_235 (by decide) ?_
            exact rt_z X hr hk hP hS (by decide) (by rw [f_Prc_push, if_neg h1, if_neg h4, if_neg h7, if_neg h10, if_pos h13, bs_eq e15]) d_Prc_push_236
          ·
            by_cases h16 : x1 = (139 : Int32)
            ·
              refine sw_l (k := (139 : Int32)) (tgt := 165) hx hb d_Prc_push_1 h16 rfl ?_
              refine lv_aload_n hx hb d_Prc_push_165 rfl (lv_at hl 0 rfl) ?_
              refine gt_Prc X hP 3 (by decide) (v := .ref (a 5)) q_197 rfl d_Prc_push_166 ?_
              refine lv_aload_n hx hb d_Prc_push_169 rfl (lv_at hl 0 rfl) ?_
              refine gt_Prc X hP 1 (by decide) (v := .ref (a 2)) q_195 rfl d_Prc_push_170 ?_
              refine gt_Reg X hP 5 (by decide) (v := .int (S.1 5)) q_130 rfl d_Prc_push_173 ?_
              refine kv_s (rest := []) X hP hS (c_Stk_pushByte l D cB cI a bz ha S (S.1 5)) (kw_Stk_pushByte hts q_283 ⟨Nat.le_of_ble_eq_true rfl, Nat.le_of_ble_eq_true rfl⟩) 5 rfl rfl rfl hl.1 rfl (lv_room (Nat.le_of_ble_eq_true rfl)) d_Prc_push_176 (fun S17 H locs e18 hP hS => ?_)
              refine lv_goto (tgt := 235) hx hb d_Prc_push_179 rfl ?_
              refine lv_iconst (v := (1 : Int32)) hx hb d_Prc_push_235 (by decide) ?_
              exact rt_z X hr hk hP hS (by decide) (by rw [f_Prc_push, if_neg h1, if_neg h4, if_neg h7, if_neg h10, if_neg h13, if_pos h16, bs_eq e18]) d_Prc_push_236
            ·
              by_cases h19 : x1 = (218 : Int32)
              ·
                refine sw_l (k := (218 : Int32)) (tgt := 100) hx hb d_Prc_push_1 h19 rfl ?_
                refine lv_aload_n hx hb d_Prc_push_100 rfl (lv_at hl 0 rfl) ?_
                refine gt_Prc X hP 3 (by decide) (v := .ref (a 5)) q_197 rfl d_Prc_push_101 ?_
                refine lv_aload_n hx hb d_Prc_push_104 rfl (lv_at hl 0 rfl) ?_
                refine gt_Prc X hP 1 (by decide) (v := .ref (a 2)) q_195 rfl d_Prc_push_105 ?_
                refine gt_Reg X hP 1 (by decide) (v := .int (S.1 1)) q_113 rfl d_Prc_push_108 ?_
                refine lv_aload_n hx hb d_Prc_push_111 rfl (lv_at hl 0 rfl) ?_
                refine gt_Prc X hP 1 (by decide) (v := .ref (a 2)) q_195 rfl d_Prc_push_112 ?_
                refine kv_v (rest := [.int (S.1 1), .ref (a 5)]) X hP hS (c_Reg_wideIndex l D cB cI a bz ha S) (kw_Reg_wideIndex hts q_428 ⟨Nat.le_of_ble_eq_true rfl, Nat.le_of_ble_eq_true rfl⟩) 2 rfl rfl rfl hl.1 rfl (lv_room (Nat.le_of_ble_eq_true rfl)) d_Prc_push_115 (fun H locs hP hS => ?_)
                refine kv_s (rest := []) X hP hS (c_Stk_pushValue l D cB cI a bz ha S (S.1 1) (f_Reg_wideIndex S)) (kw_Stk_pushValue hts q_469 ⟨Nat.le_of_ble_eq_true rfl, Nat.le_of_ble_eq_true rfl⟩) 5 rfl rfl rfl hl.1 rfl (lv_room (Nat.le_of_ble_eq_true rfl)) d_Prc_push_118 (fun S20 H locs e21 hP hS => ?_)
                refine lv_goto (tgt := 235) hx hb d_Prc_push_121 rfl ?_
                refine lv_iconst (v := (1 : Int32)) hx hb d_Prc_push_235 (by decide) ?_
                exact rt_z X hr hk hP hS (by decide) (by rw [f_Prc_push, if_neg h1, if_neg h4, if_neg h7, if_neg h10, if_neg h13, if_neg h16, if_pos h19, bs_eq e21]) d_Prc_push_236
              ·
                by_cases h22 : x1 = (244 : Int32)
                ·
                  refine sw_l (k := (244 : Int32)) (tgt := 216) hx hb d_Prc_push_1 h22 rfl ?_
                  refine lv_aload_n hx hb d_Prc_push_216 rfl (lv_at hl 0 rfl) ?_
                  refine gt_Prc X hP 3 (by decide) (v := .ref (a 5)) q_197 rfl d_Prc_push_217 ?_
                  refine lv_aload_n hx hb d_Prc_push_220 rfl (lv_at hl 0 rfl) ?_
                  refine gt_Prc X hP 2 (by decide) (v := .ref (a 4)) q_196 rfl d_Prc_push_221 ?_
                  refine kv_vs (rest := [.ref (a 5)]) X hP hS (c_Opd_nextWord l D cB cI a bz ha S) (kw_Opd_nextWord hts q_473 ⟨Nat.le_of_ble_eq_true rfl, Nat.le_of_ble_eq_true rfl⟩) 4 rfl rfl rfl hl.1 rfl (lv_room (Nat.le_of_ble_eq_true rfl)) d_Prc_push_224 (fun r23 S24 H locs e25 hP hS => ?_)
                  refine kv_s (rest := []) X hP hS (c_Stk_pushWord l D cB cI a bz ha S24 r23) (kw_Stk_pushWord hts q_300 ⟨Nat.le_of_ble_eq_true rfl, Nat.le_of_ble_eq_true rfl⟩) 5 rfl rfl rfl hl.1 rfl (lv_room (Nat.le_of_ble_eq_true rfl)) d_Prc_push_227 (fun S26 H locs e27 hP hS => ?_)
                  refine lv_goto (tgt := 235) hx hb d_Prc_push_230 rfl ?_
                  refine lv_iconst (v := (1 : Int32)) hx hb d_Prc_push_235 (by decide) ?_
                  exact rt_z X hr hk hP hS (by decide) (by rw [f_Prc_push, if_neg h1, if_neg h4, if_neg h7, if_neg h10, if_neg h13, if_neg h16, if_neg h19, if_pos h22, bn_eq e25, bs_eq e27]) d_Prc_push_236
                ·
                  refine sn_l (tgt := 233) hx hb d_Prc_push_1 rfl ⟨lv_neT h1 rfl, lv_neT h4 rfl, lv_neT h7 rfl, lv_neT h10 rfl, lv_neT h13 rfl, lv_neT h16 rfl, lv_neT h19 rfl, lv_neT h22 rfl, trivial⟩ rfl ?_
                  refine lv_iconst (v := (0 : Int32)) hx hb d_Prc_push_233 (by decide) ?_
                  exact rt_z X hr hk hP hS (by decide) (by rw [f_Prc_push, if_neg h1, if_neg h4, if_neg h7, if_neg h10, if_neg h13, if_neg h16, if_neg h19, if_neg h22]) d_Prc_push_234
set_option maxHeartbeats 4000000 in
set_option maxRecDepth 100000 in
theorem c_Prc_pull (l : Launch) (D : va_G) (cB cI : ClassId) (a : Nat → Nat) (bz : Nat) (ha : ap a 8) (S : Sc) (x1 : Int32) : MI l y_Prc_pull b_Prc_pull 2 (some .boolean) rm_Prc_pull [.ref (a 3), .int x1] D cB cI (wdC cB cI a) (ow a 8) bz S (f_Prc_pull S x1) := by
  refine met_in R_Prc (by decide) rfl (Nat.le_of_ble_eq_true rfl) (wdC_D ha cB cI) ?_
  intro p e s m below meth c ls X hr hk hl hP hS
  have hx := X.1.1
  have hb := X.1.2.1
  have hown := X.1.2.2.2.1
  have hts := X.1.2.2.2.2
  have hl : lv_has ls 2 [(0, .ref (a 3)), (1, .int x1)] := hl
  refine lv_iload_n hx hb d_Prc_pull_0 rfl (lv_at hl 1 rfl) ?_
  by_cases h1 : x1 = (40 : Int32)
  ·
    refine sw_l (k := (40 : Int32)) (tgt := 166) hx hb d_Prc_pull_1 h1 rfl ?_
    refine lv_aload_n hx hb d_Prc_pull_166 rfl (lv_at hl 0 rfl) ?_
    refine gt_Prc X hP 1 (by decide) (v := .ref (a 2)) q_195 rfl d_Prc_pull_167 ?_
    refine lv_aload_n hx hb d_Prc_pull_170 rfl (lv_at hl 0 rfl) ?_
    refine gt_Prc X hP 3 (by decide) (v := .ref (a 5)) q_197 rfl d_Prc_pull_171 ?_
    refine kv_vs (rest := [.ref (a 2)]) X hP hS (c_Stk_pullByte l D cB cI a bz ha S) (kw_Stk_pullByte hts q_492 ⟨Nat.le_of_ble_eq_true rfl, Nat.le_of_ble_eq_true rfl⟩) 5 rfl rfl rfl hl.1 rfl (lv_room (Nat.le_of_ble_eq_true rfl)) d_Prc_pull_174 (fun r2 S3 H locs e4 hP hS => ?_)
    refine kv_s (rest := []) X hP hS (c_Reg_replaceP l D cB cI a bz ha S3 r2) (kw_Reg_replaceP hts q_497 ⟨Nat.le_of_ble_eq_true rfl, Nat.le_of_ble_eq_true rfl⟩) 2 rfl rfl rfl hl.1 rfl (lv_room (Nat.le_of_ble_eq_true rfl)) d_Prc_pull_177 (fun S5 H locs e6 hP hS => ?_)
    refine lv_goto (tgt := 185) hx hb d_Prc_pull_180 rfl ?_
    refine lv_iconst (v := (1 : Int32)) hx hb d_Prc_pull_185 (by decide) ?_
    exact rt_z X hr hk hP hS (by decide) (by rw [f_Prc_pull, if_pos h1, bn_eq e4, bs_eq e6]) d_Prc_pull_186
  ·
    by_cases h7 : x1 = (43 : Int32)
    ·
      refine sw_l (k := (43 : Int32)) (tgt := 132) hx hb d_Prc_pull_1 h7 rfl ?_
      refine lv_aload_n hx hb d_Prc_pull_132 rfl (lv_at hl 0 rfl) ?_
      refine gt_Prc X hP 1 (by decide) (v := .ref (a 2)) q_195 rfl d_Prc_pull_133 ?_
      refine lv_aload_n hx hb d_Prc_pull_136 rfl (lv_at hl 0 rfl) ?_
      refine gt_Prc X hP 3 (by decide) (v := .ref (a 5)) q_197 rfl d_Prc_pull_137 ?_
      refine kv_vs (rest := [.ref (a 2)]) X hP hS (c_Stk_pullWord l D cB cI a bz ha S) (kw_Stk_pullWord hts q_491 ⟨Nat.le_of_ble_eq_true rfl, Nat.le_of_ble_eq_true rfl⟩) 5 rfl rfl rfl hl.1 rfl (lv_room (Nat.le_of_ble_eq_true rfl)) d_Prc_pull_140 (fun r8 S9 H locs e10 hP hS => ?_)
      refine kv_s (rest := []) X hP hS (c_Reg_loadD l D cB cI a bz ha S9 r8) (kw_Reg_loadD hts q_457 ⟨Nat.le_of_ble_eq_true rfl, Nat.le_of_ble_eq_true rfl⟩) 2 rfl rfl rfl hl.1 rfl (lv_room (Nat.le_of_ble_eq_true rfl)) d_Prc_pull_143 (fun S11 H locs e12 hP hS => ?_)
      refine lv_goto (tgt := 185) hx hb d_Prc_pull_146 rfl ?_
      refine lv_iconst (v := (1 : Int32)) hx hb d_Prc_pull_185 (by decide) ?_
      exact rt_z X hr hk hP hS (by decide) (by rw [f_Prc_pull, if_neg h1, if_pos h7, bn_eq e10, bs_eq e12]) d_Prc_pull_186
    ·
      by_cases h13 : x1 = (104 : Int32)
      ·
        refine sw_l (k := (104 : Int32)) (tgt := 60) hx hb d_Prc_pull_1 h13 rfl ?_
        refine lv_aload_n hx hb d_Prc_pull_60 rfl (lv_at hl 0 rfl) ?_
        refine gt_Prc X hP 1 (by decide) (v := .ref (a 2)) q_195 rfl d_Prc_pull_61 ?_
        refine lv_aload_n hx hb d_Prc_pull_64 rfl (lv_at hl 0 rfl) ?_
        refine gt_Prc X hP 3 (by decide) (v := .ref (a 5)) q_197 rfl d_Prc_pull_65 ?_
        refine lv_aload_n hx hb d_Prc_pull_68 rfl (lv_at hl 0 rfl) ?_
        refine gt_Prc X hP 1 (by decide) (v := .ref (a 2)) q_195 rfl d_Prc_pull_69 ?_
        refine kv_v (rest := [.ref (a 5), .ref (a 2)]) X hP hS (c_Reg_wideA l D cB cI a bz ha S) (kw_Reg_wideA hts q_346 ⟨Nat.le_of_ble_eq_true rfl, Nat.le_of_ble_eq_true rfl⟩) 2 rfl rfl rfl hl.1 rfl (lv_room (Nat.le_of_ble_eq_true rfl)) d_Prc_pull_72 (fun H locs hP hS => ?_)
        refine kv_vs (rest := [.ref (a 2)]) X hP hS (c_Stk_pullValue l D cB cI a bz ha S (f_Reg_wideA S)) (kw_Stk_pullValue hts q_478 ⟨Nat.le_of_ble_eq_true rfl, Nat.le_of_ble_eq_true rfl⟩) 5 rfl rfl rfl hl.1 rfl (lv_room (Nat.le_of_ble_eq_true rfl)) d_Prc_pull_75 (fun r14 S15 H locs e16 hP hS => ?_)
        refine kv_s (rest := []) X hP hS (c_Reg_loadA l D cB cI a bz ha S15 r14) (kw_Reg_loadA hts q_401 ⟨Nat.le_of_ble_eq_true rfl, Nat.le_of_ble_eq_true rfl⟩) 2 rfl rfl rfl hl.1 rfl (lv_room (Nat.le_of_ble_eq_true rfl)) d_Prc_pull_78 (fun S17 H locs e18 hP hS => ?_)
        refine lv_goto (tgt := 185) hx hb d_Prc_pull_81 rfl ?_
        refine lv_iconst (v := (1 : Int32)) hx hb d_Prc_pull_185 (by decide) ?_
        exact rt_z X hr hk hP hS (by decide) (by rw [f_Prc_pull, if_neg h1, if_neg h7, if_pos h13, bn_eq e16, bs_eq e18]) d_Prc_pull_186
      ·
        by_cases h19 : x1 = (122 : Int32)
        ·
          refine sw_l (k := (122 : Int32)) (tgt := 108) hx hb d_Prc_pull_1 h19 rfl ?_
          refine lv_aload_n hx hb d_Prc_pull_108 rfl (lv_at hl 0 rfl) ?_
          refine gt_Prc X hP 1 (by decide) (v := .ref (a 2)) q_195 rfl d_Prc_pull_109 ?_
          refine lv_aload_n hx hb d_Prc_pull_112 rfl (lv_at hl 0 rfl) ?_
          refine gt_Prc X hP 3 (by decide) (v := .ref (a 5)) q_197 rfl d_Prc_pull_113 ?_
          refine lv_aload_n hx hb d_Prc_pull_116 rfl (lv_at hl 0 rfl) ?_
          refine gt_Prc X hP 1 (by decide) (v := .ref (a 2)) q_195 rfl d_Prc_pull_117 ?_
          refine kv_v (rest := [.ref (a 5), .ref (a 2)]) X hP hS (c_Reg_wideIndex l D cB cI a bz ha S) (kw_Reg_wideIndex hts q_428 ⟨Nat.le_of_ble_eq_true rfl, Nat.le_of_ble_eq_true rfl⟩) 2 rfl rfl rfl hl.1 rfl (lv_room (Nat.le_of_ble_eq_true rfl)) d_Prc_pull_120 (fun H locs hP hS => ?_)
          refine kv_vs (rest := [.ref (a 2)]) X hP hS (c_Stk_pullValue l D cB cI a bz ha S (f_Reg_wideIndex S)) (kw_Stk_pullValue hts q_478 ⟨Nat.le_of_ble_eq_true rfl, Nat.le_of_ble_eq_true rfl⟩) 5 rfl rfl rfl hl.1 rfl (lv_room (Nat.le_of_ble_eq_true rfl)) d_Prc_pull_123 (fun r20 S21 H locs e22 hP hS => ?_)
          refine kv_s (rest := []) X hP hS (c_Reg_loadY l D cB cI a bz ha S21 r20) (kw_Reg_loadY hts q_433 ⟨Nat.le_of_ble_eq_true rfl, Nat.le_of_ble_eq_true rfl⟩) 2 rfl rfl rfl hl.1 rfl (lv_room (Nat.le_of_ble_eq_true rfl)) d_Prc_pull_126 (fun S23 H locs e24 hP hS => ?_)
          refine lv_goto (tgt := 185) hx hb d_Prc_pull_129 rfl ?_
          refine lv_iconst (v := (1 : Int32)) hx hb d_Prc_pull_185 (by decide) ?_
          exact rt_z X hr hk hP hS (by decide) (by rw [f_Prc_pull, if_neg h1, if_neg h7, if_neg h13, if_pos h19, bn_eq e22, bs_eq e24]) d_Prc_pull_186
        ·
          by_cases h25 : x1 = (171 : Int32)
          ·
            refine sw_l (k := (171 : Int32)) (tgt := 149) hx hb d_Prc_pull_1 h25 rfl ?_
            refine lv_aload_n hx hb d_Prc_pull_149 rfl (lv_at hl 0 rfl) ?_
            refine gt_Prc X hP 1 (by decide) (v := .ref (a 2)) q_195 rfl d_Prc_pull_150 ?_
            refine lv_aload_n hx hb d_Prc_pull_153 rfl (lv_at hl 0 rfl) ?_
            refine gt_Prc X hP 3 (by decide) (v := .ref (a 5)) q_197 rfl d_Prc_pull_154 ?_
            refine kv_vs (rest := [.ref (a 2)]) X hP hS (c_Stk_pullByte l D cB cI a bz ha S) (kw_Stk_pullByte hts q_492 ⟨Nat.le_of_ble_eq_true rfl, Nat.le_of_ble_eq_true rfl⟩) 5 rfl rfl rfl hl.1 rfl (lv_room (Nat.le_of_ble_eq_true rfl)) d_Prc_pull_157 (fun r26 S27 H locs e28 hP hS => ?_)
            refine kv_s (rest := []) X hP hS (c_Reg_loadDataBank l D cB cI a bz ha S27 r26) (kw_Reg_loadDataBank hts q_493 ⟨Nat.le_of_ble_eq_true rfl, Nat.le_of_ble_eq_true rfl⟩) 2 rfl rfl rfl hl.1 rfl (lv_room (Nat.le_of_ble_eq_true rfl)) d_Prc_pull_160 (fun S29 H locs e30 hP hS => ?_)
            refine lv_goto (tgt := 185) hx hb d_Prc_pull_163 rfl ?_
            refine lv_iconst (v := (1 : Int32)) hx hb d_Prc_pull_185 (by decide) ?_
            exact rt_z X hr hk hP hS (by decide) (by rw [f_Prc_pull, if_neg h1, if_neg h7, if_neg h13, if_neg h19, if_pos h25, bn_eq e28, bs_eq e30]) d_Prc_pull_186
          ·
            by_cases h31 : x1 = (250 : Int32)
            ·
              refine sw_l (k := (250 : Int32)) (tgt := 84) hx hb d_Prc_pull_1 h31 rfl ?_
              refine lv_aload_n hx hb d_Prc_pull_84 rfl (lv_at hl 0 rfl) ?_
              refine gt_Prc X hP 1 (by decide) (v := .ref (a 2)) q_195 rfl d_Prc_pull_85 ?_
              refine lv_aload_n hx hb d_Prc_pull_88 rfl (lv_at hl 0 rfl) ?_
              refine gt_Prc X hP 3 (by decide) (v := .ref (a 5)) q_197 rfl d_Prc_pull_89 ?_
              refine lv_aload_n hx hb d_Prc_pull_92 rfl (lv_at hl 0 rfl) ?_
              refine gt_Prc X hP 1 (by decide) (v := .ref (a 2)) q_195 rfl d_Prc_pull_93 ?_
              refine kv_v (rest := [.ref (a 5), .ref (a 2)]) X hP hS (c_Reg_wideIndex l D cB cI a bz ha S) (kw_Reg_wideIndex hts q_428 ⟨Nat.le_of_ble_eq_true rfl, Nat.le_of_ble_eq_true rfl⟩) 2 rfl rfl rfl hl.1 rfl (lv_room (Nat.le_of_ble_eq_true rfl)) d_Prc_pull_96 (fun H locs hP hS => ?_)
              refine kv_vs (rest := [.ref (a 2)]) X hP hS (c_Stk_pullValue l D cB cI a bz ha S (f_Reg_wideIndex S)) (kw_Stk_pullValue hts q_478 ⟨Nat.le_of_ble_eq_true rfl, Nat.le_of_ble_eq_true rfl⟩) 5 rfl rfl rfl hl.1 rfl (lv_room (Nat.le_of_ble_eq_true rfl)) d_Prc_pull_99 (fun r32 S33 H locs e34 hP hS => ?_)
              refine kv_s (rest := []) X hP hS (c_Reg_loadX l D cB cI a bz ha S33 r32) (kw_Reg_loadX hts q_429 ⟨Nat.le_of_ble_eq_true rfl, Nat.le_of_ble_eq_true rfl⟩) 2 rfl rfl rfl hl.1 rfl (lv_room (Nat.le_of_ble_eq_true rfl)) d_Prc_pull_102 (fun S35 H locs e36 hP hS => ?_)
              refine lv_goto (tgt := 185) hx hb d_Prc_pull_105 rfl ?_
              refine lv_iconst (v := (1 : Int32)) hx hb d_Prc_pull_185 (by decide) ?_
              exact rt_z X hr hk hP hS (by decide) (by rw [f_Prc_pull, if_neg h1, if_neg h7, if_neg h13, if_neg h19, if_neg h25, if_pos h31, bn_eq e34, bs_eq e36]) d_Prc_pull_186
            ·
              refine sn_l (tgt := 183) hx hb d_Prc_pull_1 rfl ⟨lv_neT h1 rfl, lv_neT h7 rfl, lv_neT h13 rfl, lv_neT h19 rfl, lv_neT h25 rfl, lv_neT h31 rfl, trivial⟩ rfl ?_
              refine lv_iconst (v := (0 : Int32)) hx hb d_Prc_pull_183 (by decide) ?_
              exact rt_z X hr hk hP hS (by decide) (by rw [f_Prc_pull, if_neg h1, if_neg h7, if_neg h13, if_neg h19, if_neg h25, if_neg h31]) d_Prc_pull_184
set_option maxHeartbeats 4000000 in
set_option maxRecDepth 100000 in
theorem c_Prc_branch (l : Launch) (D : va_G) (cB cI : ClassId) (a : Nat → Nat) (bz : Nat) (ha : ap a 8) (S : Sc) (x1 : Int32) (hb8 : x1 &&& 255 = x1) : MI l y_Prc_branch b_Prc_branch 4 (some .boolean) rm_Prc_branch [.ref (a 3), .int x1] D cB cI (wdC cB cI a) (ow a 8) bz S (f_Prc_branch S x1) := by
  refine met_in R_Prc (by decide) rfl (Nat.le_of_ble_eq_true rfl) (wdC_D ha cB cI) ?_
  intro p e s m below meth c ls X hr hk hl hP hS
  have hx := X.1.1
  have hb := X.1.2.1
  have hown := X.1.2.2.2.1
  have hts := X.1.2.2.2.2
  have hl : lv_has ls 4 [(0, .ref (a 3)), (1, .int x1)] := hl
  refine lv_iload_n hx hb d_Prc_branch_0 rfl (lv_at hl 1 rfl) ?_
  refine lv_sipush (v := (130 : Int32)) hx hb d_Prc_branch_1 (by decide) ?_
  refine lv_icmp_ne (tgt := 33) hx hb d_Prc_branch_4 rfl (fun h1 => ?_) (fun h1 => ?_)
  ·
    refine lv_iload_n hx hb d_Prc_branch_33 rfl (lv_at hl 1 rfl) ?_
    refine lv_sipush (v := (128 : Int32)) hx hb d_Prc_branch_34 (by decide) ?_
    refine lv_icmp_ne (tgt := 44) hx hb d_Prc_branch_37 rfl (fun h2 => ?_) (fun h2 => ?_)
    ·
      refine lv_iconst (v := (0 : Int32)) hx hb d_Prc_branch_44 (by decide) ?_
      refine lv_istore_n hx hb d_Prc_branch_45 rfl hl (Nat.le_of_ble_eq_true rfl) rfl (fun ls hl => ?_)
      have hl : lv_has ls 4 [(2, .int ((0 : Int32))), (0, .ref (a 3)), (1, .int (x1))] := hl
      refine lv_iload_n hx hb d_Prc_branch_46 rfl (lv_at hl 0 rfl) ?_
      refine lv_if_ne (tgt := 61) hx hb d_Prc_branch_47 rfl (fun h => absurd (by decide) h) (fun _ => ?_)
      refine lv_iload_n hx hb d_Prc_branch_50 rfl (lv_at hl 2 rfl) ?_
      refine lv_bipush (v := (31 : Int32)) hx hb d_Prc_branch_51 (by decide) ?_
      refine lv_iand hx hb d_Prc_branch_53 ?_
      refine lv_bipush (v := (16 : Int32)) hx hb d_Prc_branch_54 (by decide) ?_
      refine lv_icmp_eq (tgt := 61) hx hb d_Prc_branch_56 rfl (fun h3 => ?_) (fun h3 => ?_)
      ·
        refine lv_aload_n hx hb d_Prc_branch_61 rfl (lv_at hl 1 rfl) ?_
        refine gt_Prc X hP 2 (by decide) (v := .ref (a 4)) q_196 rfl d_Prc_branch_62 ?_
        refine kv_vs (rest := []) X hP hS (c_Opd_nextByte l D cB cI a bz ha S) (kw_Opd_nextByte hts q_330 ⟨Nat.le_of_ble_eq_true rfl, Nat.le_of_ble_eq_true rfl⟩) 4 rfl rfl rfl hl.1 rfl (lv_room (Nat.le_of_ble_eq_true rfl)) d_Prc_branch_65 (fun r4 S5 H locs e6 hP hS => ?_)
        refine lv_i2b hx hb d_Prc_branch_68 rfl ?_
        refine lv_istore_n hx hb d_Prc_branch_69 rfl hl (Nat.le_of_ble_eq_true rfl) rfl (fun ls hl => ?_)
        have hl : lv_has ls 4 [(3, .int ((r4).toInt8.toInt32)), (2, .int ((0 : Int32))), (0, .ref (a 3)), (1, .int (x1))] := hl
        refine lv_iload_n hx hb d_Prc_branch_70 rfl (lv_at hl 1 rfl) ?_
        refine lv_if_ne (tgt := 104) hx hb d_Prc_branch_71 rfl (fun h => absurd (by decide) h) (fun _ => ?_)
        refine lv_aload_n hx hb d_Prc_branch_74 rfl (lv_at hl 2 rfl) ?_
        refine gt_Prc X hP 1 (by decide) (v := .ref (a 2)) q_195 rfl d_Prc_branch_75 ?_
        refine gs_BRANCH_FLAGS X hS q_506 d_Prc_branch_78 ?_
        refine lv_iload_n hx hb d_Prc_branch_81 rfl (lv_at hl 3 rfl) ?_
        refine lv_bipush (v := (6 : Int32)) hx hb d_Prc_branch_82 (by decide) ?_
        refine lv_ishr hx hb d_Prc_branch_84 ?_
        refine rs_flags X hS (in_bf hb8) d_Prc_branch_85 ?_
        refine kv_v (rest := []) X hP hS (c_Reg_has l D cB cI a bz ha S5 (bf ((x1 >>> ((6 : Int32) &&& 31))).toNatClampNeg)) (kw_Reg_has hts q_326 ⟨Nat.le_of_ble_eq_true rfl, Nat.le_of_ble_eq_true rfl⟩) 2 rfl rfl rfl hl.1 rfl (lv_room (Nat.le_of_ble_eq_true rfl)) d_Prc_branch_86 (fun H locs hP hS => ?_)
        refine lv_iload_n hx hb d_Prc_branch_89 rfl (lv_at hl 3 rfl) ?_
        refine lv_bipush (v := (32 : Int32)) hx hb d_Prc_branch_90 (by decide) ?_
        refine lv_iand hx hb d_Prc_branch_92 ?_
        refine lv_if_eq (tgt := 100) hx hb d_Prc_branch_93 rfl (fun h7 => ?_) (fun h7 => ?_)
        ·
          refine lv_iconst (v := (0 : Int32)) hx hb d_Prc_branch_100 (by decide) ?_
          refine lv_icmp_ne (tgt := 120) hx hb d_Prc_branch_101 rfl (fun h8 => ?_) (fun h8 => ?_)
          ·
            refine lv_iconst (v := (1 : Int32)) hx hb d_Prc_branch_120 (by decide) ?_
            exact rt_z X hr hk hP hS (by decide) (by rw [f_Prc_branch, if_neg h1, if_neg h2, if_pos h3, bn_eq e6, if_pos h7, if_neg h8]) d_Prc_branch_121
          ·
            refine lv_aload_n hx hb d_Prc_branch_104 rfl (lv_at hl 2 rfl) ?_
            refine gt_Prc X hP 1 (by decide) (v := .ref (a 2)) q_195 rfl d_Prc_branch_105 ?_
            refine lv_aload_n hx hb d_Prc_branch_108 rfl (lv_at hl 2 rfl) ?_
            refine gt_Prc X hP 1 (by decide) (v := .ref (a 2)) q_195 rfl d_Prc_branch_109 ?_
            refine gt_Reg X hP 7 (by decide) (v := .int (S5.1 7)) q_137 rfl d_Prc_branch_112 ?_
            refine lv_iload_n hx hb d_Prc_branch_115 rfl (lv_at hl 0 rfl) ?_
            refine lv_iadd hx hb d_Prc_branch_116 ?_
            refine kv_s (rest := []) X hP hS (c_Reg_jumpTo l D cB cI a bz ha S5 ((S5.1 7) + ((r4).toInt8.toInt32))) (kw_Reg_jumpTo hts q_502 ⟨Nat.le_of_ble_eq_true rfl, Nat.le_of_ble_eq_true rfl⟩) 2 rfl rfl rfl hl.1 rfl (lv_room (Nat.le_of_ble_eq_true rfl)) d_Prc_branch_117 (fun S9 H locs e10 hP hS => ?_)
            refine lv_iconst (v := (1 : Int32)) hx hb d_Prc_branch_120 (by decide) ?_
            exact rt_z X hr hk hP hS (by decide) (by rw [f_Prc_branch, if_neg h1, if_neg h2, if_pos h3, bn_eq e6, if_pos h7, if_pos h8, bs_eq e10]) d_Prc_branch_121
        ·
          refine lv_iconst (v := (1 : Int32)) hx hb d_Prc_branch_96 (by decide) ?_
          refine lv_goto (tgt := 101) hx hb d_Prc_branch_97 rfl ?_
          refine lv_icmp_ne (tgt := 120) hx hb d_Prc_branch_101 rfl (fun h11 => ?_) (fun h11 => ?_)
          ·
            refine lv_iconst (v := (1 : Int32)) hx hb d_Prc_branch_120 (by decide) ?_
            exact rt_z X hr hk hP hS (by decide) (by rw [f_Prc_branch, if_neg h1, if_neg h2, if_pos h3, bn_eq e6, if_neg h7, if_neg h11]) d_Prc_branch_121
          ·
            refine lv_aload_n hx hb d_Prc_branch_104 rfl (lv_at hl 2 rfl) ?_
            refine gt_Prc X hP 1 (by decide) (v := .ref (a 2)) q_195 rfl d_Prc_branch_105 ?_
            refine lv_aload_n hx hb d_Prc_branch_108 rfl (lv_at hl 2 rfl) ?_
            refine gt_Prc X hP 1 (by decide) (v := .ref (a 2)) q_195 rfl d_Prc_branch_109 ?_
            refine gt_Reg X hP 7 (by decide) (v := .int (S5.1 7)) q_137 rfl d_Prc_branch_112 ?_
            refine lv_iload_n hx hb d_Prc_branch_115 rfl (lv_at hl 0 rfl) ?_
            refine lv_iadd hx hb d_Prc_branch_116 ?_
            refine kv_s (rest := []) X hP hS (c_Reg_jumpTo l D cB cI a bz ha S5 ((S5.1 7) + ((r4).toInt8.toInt32))) (kw_Reg_jumpTo hts q_502 ⟨Nat.le_of_ble_eq_true rfl, Nat.le_of_ble_eq_true rfl⟩) 2 rfl rfl rfl hl.1 rfl (lv_room (Nat.le_of_ble_eq_true rfl)) d_Prc_branch_117 (fun S12 H locs e13 hP hS => ?_)
            refine lv_iconst (v := (1 : Int32)) hx hb d_Prc_branch_120 (by decide) ?_
            exact rt_z X hr hk hP hS (by decide) (by rw [f_Prc_branch, if_neg h1, if_neg h2, if_pos h3, bn_eq e6, if_neg h7, if_pos h11, bs_eq e13]) d_Prc_branch_121
      ·
        refine lv_iconst (v := (0 : Int32)) hx hb d_Prc_branch_59 (by decide) ?_
        exact rt_z X hr hk hP hS (by decide) (by rw [f_Prc_branch, if_neg h1, if_neg h2, if_neg h3]) d_Prc_branch_60
    ·
      refine lv_iconst (v := (1 : Int32)) hx hb d_Prc_branch_40 (by decide) ?_
      refine lv_goto (tgt := 45) hx hb d_Prc_branch_41 rfl ?_
      refine lv_istore_n hx hb d_Prc_branch_45 rfl hl (Nat.le_of_ble_eq_true rfl) rfl (fun ls hl => ?_)
      have hl : lv_has ls 4 [(2, .int ((1 : Int32))), (0, .ref (a 3)), (1, .int (x1))] := hl
      refine lv_iload_n hx hb d_Prc_branch_46 rfl (lv_at hl 0 rfl) ?_
      refine lv_if_ne (tgt := 61) hx hb d_Prc_branch_47 rfl (fun _ => ?_) (fun h => absurd h (by decide))
      refine lv_aload_n hx hb d_Prc_branch_61 rfl (lv_at hl 1 rfl) ?_
      refine gt_Prc X hP 2 (by decide) (v := .ref (a 4)) q_196 rfl d_Prc_branch_62 ?_
      refine kv_vs (rest := []) X hP hS (c_Opd_nextByte l D cB cI a bz ha S) (kw_Opd_nextByte hts q_330 ⟨Nat.le_of_ble_eq_true rfl, Nat.le_of_ble_eq_true rfl⟩) 4 rfl rfl rfl hl.1 rfl (lv_room (Nat.le_of_ble_eq_true rfl)) d_Prc_branch_65 (fun r14 S15 H locs e16 hP hS => ?_)
      refine lv_i2b hx hb d_Prc_branch_68 rfl ?_
      refine lv_istore_n hx hb d_Prc_branch_69 rfl hl (Nat.le_of_ble_eq_true rfl) rfl (fun ls hl => ?_)
      have hl : lv_has ls 4 [(3, .int ((r14).toInt8.toInt32)), (2, .int ((1 : Int32))), (0, .ref (a 3)), (1, .int (x1))] := hl
      refine lv_iload_n hx hb d_Prc_branch_70 rfl (lv_at hl 1 rfl) ?_
      refine lv_if_ne (tgt := 104) hx hb d_Prc_branch_71 rfl (fun _ => ?_) (fun h => absurd h (by decide))
      refine lv_aload_n hx hb d_Prc_branch_104 rfl (lv_at hl 2 rfl) ?_
      refine gt_Prc X hP 1 (by decide) (v := .ref (a 2)) q_195 rfl d_Prc_branch_105 ?_
      refine lv_aload_n hx hb d_Prc_branch_108 rfl (lv_at hl 2 rfl) ?_
      refine gt_Prc X hP 1 (by decide) (v := .ref (a 2)) q_195 rfl d_Prc_branch_109 ?_
      refine gt_Reg X hP 7 (by decide) (v := .int (S15.1 7)) q_137 rfl d_Prc_branch_112 ?_
      refine lv_iload_n hx hb d_Prc_branch_115 rfl (lv_at hl 0 rfl) ?_
      refine lv_iadd hx hb d_Prc_branch_116 ?_
      refine kv_s (rest := []) X hP hS (c_Reg_jumpTo l D cB cI a bz ha S15 ((S15.1 7) + ((r14).toInt8.toInt32))) (kw_Reg_jumpTo hts q_502 ⟨Nat.le_of_ble_eq_true rfl, Nat.le_of_ble_eq_true rfl⟩) 2 rfl rfl rfl hl.1 rfl (lv_room (Nat.le_of_ble_eq_true rfl)) d_Prc_branch_117 (fun S17 H locs e18 hP hS => ?_)
      refine lv_iconst (v := (1 : Int32)) hx hb d_Prc_branch_120 (by decide) ?_
      exact rt_z X hr hk hP hS (by decide) (by rw [f_Prc_branch, if_neg h1, if_pos h2, bn_eq e16, bs_eq e18]) d_Prc_branch_121
  ·
    refine lv_aload_n hx hb d_Prc_branch_7 rfl (lv_at hl 0 rfl) ?_
    refine gt_Prc X hP 2 (by decide) (v := .ref (a 4)) q_196 rfl d_Prc_branch_8 ?_
    refine kv_vs (rest := []) X hP hS (c_Opd_nextWord l D cB cI a bz ha S) (kw_Opd_nextWord hts q_473 ⟨Nat.le_of_ble_eq_true rfl, Nat.le_of_ble_eq_true rfl⟩) 4 rfl rfl rfl hl.1 rfl (lv_room (Nat.le_of_ble_eq_true rfl)) d_Prc_branch_11 (fun r19 S20 H locs e21 hP hS => ?_)
    refine lv_istore_n hx hb d_Prc_branch_14 rfl hl (Nat.le_of_ble_eq_true rfl) rfl (fun ls hl => ?_)
    have hl : lv_has ls 4 [(2, .int (r19)), (0, .ref (a 3)), (1, .int (x1))] := hl
    refine lv_aload_n hx hb d_Prc_branch_15 rfl (lv_at hl 1 rfl) ?_
    refine gt_Prc X hP 1 (by decide) (v := .ref (a 2)) q_195 rfl d_Prc_branch_16 ?_
    refine lv_aload_n hx hb d_Prc_branch_19 rfl (lv_at hl 1 rfl) ?_
    refine gt_Prc X hP 1 (by decide) (v := .ref (a 2)) q_195 rfl d_Prc_branch_20 ?_
    refine gt_Reg X hP 7 (by decide) (v := .int (S20.1 7)) q_137 rfl d_Prc_branch_23 ?_
    refine lv_iload_n hx hb d_Prc_branch_26 rfl (lv_at hl 0 rfl) ?_
    refine lv_iadd hx hb d_Prc_branch_27 ?_
    refine kv_s (rest := []) X hP hS (c_Reg_jumpTo l D cB cI a bz ha S20 ((S20.1 7) + r19)) (kw_Reg_jumpTo hts q_502 ⟨Nat.le_of_ble_eq_true rfl, Nat.le_of_ble_eq_true rfl⟩) 2 rfl rfl rfl hl.1 rfl (lv_room (Nat.le_of_ble_eq_true rfl)) d_Prc_branch_28 (fun S22 H locs e23 hP hS => ?_)
    refine lv_iconst (v := (1 : Int32)) hx hb d_Prc_branch_31 (by decide) ?_
    exact rt_z X hr hk hP hS (by decide) (by rw [f_Prc_branch, if_pos h1, bn_eq e21, bs_eq e23]) d_Prc_branch_32
set_option maxHeartbeats 4000000 in
set_option maxRecDepth 100000 in
theorem c_Prc_jump (l : Launch) (D : va_G) (cB cI : ClassId) (a : Nat → Nat) (bz : Nat) (ha : ap a 8) (S : Sc) (x1 : Int32) : MI l y_Prc_jump b_Prc_jump 3 (some .boolean) rm_Prc_jump [.ref (a 3), .int x1] D cB cI (wdC cB cI a) (ow a 8) bz S (f_Prc_jump S x1) := by
  refine met_in R_Prc (by decide) rfl (Nat.le_of_ble_eq_true rfl) (wdC_D ha cB cI) ?_
  intro p e s m below meth c ls X hr hk hl hP hS
  have hx := X.1.1
  have hb := X.1.2.1
  have hown := X.1.2.2.2.1
  have hts := X.1.2.2.2.2
  have hl : lv_has ls 3 [(0, .ref (a 3)), (1, .int x1)] := hl
  refine lv_iload_n hx hb d_Prc_jump_0 rfl (lv_at hl 1 rfl) ?_
  by_cases h1 : x1 = (32 : Int32)
  ·
    refine sw_l (k := (32 : Int32)) (tgt := 102) hx hb d_Prc_jump_1 h1 rfl ?_
    refine lv_aload_n hx hb d_Prc_jump_102 rfl (lv_at hl 0 rfl) ?_
    refine gt_Prc X hP 2 (by decide) (v := .ref (a 4)) q_196 rfl d_Prc_jump_103 ?_
    refine kv_vs (rest := []) X hP hS (c_Opd_nextWord l D cB cI a bz ha S) (kw_Opd_nextWord hts q_473 ⟨Nat.le_of_ble_eq_true rfl, Nat.le_of_ble_eq_true rfl⟩) 4 rfl rfl rfl hl.1 rfl (lv_room (Nat.le_of_ble_eq_true rfl)) d_Prc_jump_106 (fun r2 S3 H locs e4 hP hS => ?_)
    refine lv_istore_n hx hb d_Prc_jump_109 rfl hl (Nat.le_of_ble_eq_true rfl) rfl (fun ls hl => ?_)
    have hl : lv_has ls 3 [(2, .int (r2)), (0, .ref (a 3)), (1, .int (x1))] := hl
    refine lv_aload_n hx hb d_Prc_jump_110 rfl (lv_at hl 1 rfl) ?_
    refine gt_Prc X hP 3 (by decide) (v := .ref (a 5)) q_197 rfl d_Prc_jump_111 ?_
    refine lv_aload_n hx hb d_Prc_jump_114 rfl (lv_at hl 1 rfl) ?_
    refine gt_Prc X hP 1 (by decide) (v := .ref (a 2)) q_195 rfl d_Prc_jump_115 ?_
    refine gt_Reg X hP 7 (by decide) (v := .int (S3.1 7)) q_137 rfl d_Prc_jump_118 ?_
    refine lv_iconst (v := (1 : Int32)) hx hb d_Prc_jump_121 (by decide) ?_
    refine lv_isub hx hb d_Prc_jump_122 ?_
    refine lv_ldc (v := (65535 : Int32)) hx hb hown (hts _ q_517) d_Prc_jump_123 ?_
    refine lv_iand hx hb d_Prc_jump_125 ?_
    refine kv_s (rest := []) X hP hS (c_Stk_pushWord l D cB cI a bz ha S3 (((S3.1 7) - (1 : Int32)) &&& (65535 : Int32))) (kw_Stk_pushWord hts q_300 ⟨Nat.le_of_ble_eq_true rfl, Nat.le_of_ble_eq_true rfl⟩) 5 rfl rfl rfl hl.1 rfl (lv_room (Nat.le_of_ble_eq_true rfl)) d_Prc_jump_126 (fun S5 H locs e6 hP hS => ?_)
    refine lv_aload_n hx hb d_Prc_jump_129 rfl (lv_at hl 1 rfl) ?_
    refine gt_Prc X hP 1 (by decide) (v := .ref (a 2)) q_195 rfl d_Prc_jump_130 ?_
    refine lv_iload_n hx hb d_Prc_jump_133 rfl (lv_at hl 0 rfl) ?_
    refine kv_s (rest := []) X hP hS (c_Reg_jumpTo l D cB cI a bz ha S5 r2) (kw_Reg_jumpTo hts q_502 ⟨Nat.le_of_ble_eq_true rfl, Nat.le_of_ble_eq_true rfl⟩) 2 rfl rfl rfl hl.1 rfl (lv_room (Nat.le_of_ble_eq_true rfl)) d_Prc_jump_134 (fun S7 H locs e8 hP hS => ?_)
    refine lv_goto (tgt := 291) hx hb d_Prc_jump_137 rfl ?_
    refine lv_iconst (v := (1 : Int32)) hx hb d_Prc_jump_291 (by decide) ?_
    exact rt_z X hr hk hP hS (by decide) (by rw [f_Prc_jump, if_pos h1, bn_eq e4, bs_eq e6, bs_eq e8]) d_Prc_jump_292
  ·
    by_cases h9 : x1 = (34 : Int32)
    ·
      refine sw_l (k := (34 : Int32)) (tgt := 140) hx hb d_Prc_jump_1 h9 rfl ?_
      refine lv_aload_n hx hb d_Prc_jump_140 rfl (lv_at hl 0 rfl) ?_
      refine gt_Prc X hP 2 (by decide) (v := .ref (a 4)) q_196 rfl d_Prc_jump_141 ?_
      refine kv_vs (rest := []) X hP hS (c_Opd_nextLong l D cB cI a bz ha S) (kw_Opd_nextLong hts q_512 ⟨Nat.le_of_ble_eq_true rfl, Nat.le_of_ble_eq_true rfl⟩) 4 rfl rfl rfl hl.1 rfl (lv_room (Nat.le_of_ble_eq_true rfl)) d_Prc_jump_144 (fun r10 S11 H locs e12 hP hS => ?_)
      refine lv_istore_n hx hb d_Prc_jump_147 rfl hl (Nat.le_of_ble_eq_true rfl) rfl (fun ls hl => ?_)
      have hl : lv_has ls 3 [(2, .int (r10)), (0, .ref (a 3)), (1, .int (x1))] := hl
      refine lv_aload_n hx hb d_Prc_jump_148 rfl (lv_at hl 1 rfl) ?_
      refine gt_Prc X hP 3 (by decide) (v := .ref (a 5)) q_197 rfl d_Prc_jump_149 ?_
      refine lv_aload_n hx hb d_Prc_jump_152 rfl (lv_at hl 1 rfl) ?_
      refine gt_Prc X hP 1 (by decide) (v := .ref (a 2)) q_195 rfl d_Prc_jump_153 ?_
      refine gt_Reg X hP 6 (by decide) (v := .int (S11.1 6)) q_132 rfl d_Prc_jump_156 ?_
      refine kv_s (rest := []) X hP hS (c_Stk_pushByte l D cB cI a bz ha S11 (S11.1 6)) (kw_Stk_pushByte hts q_283 ⟨Nat.le_of_ble_eq_true rfl, Nat.le_of_ble_eq_true rfl⟩) 5 rfl rfl rfl hl.1 rfl (lv_room (Nat.le_of_ble_eq_true rfl)) d_Prc_jump_159 (fun S13 H locs e14 hP hS => ?_)
      refine lv_aload_n hx hb d_Prc_jump_162 rfl (lv_at hl 1 rfl) ?_
      refine gt_Prc X hP 3 (by decide) (v := .ref (a 5)) q_197 rfl d_Prc_jump_163 ?_
      refine lv_aload_n hx hb d_Prc_jump_166 rfl (lv_at hl 1 rfl) ?_
      refine gt_Prc X hP 1 (by decide) (v := .ref (a 2)) q_195 rfl d_Prc_jump_167 ?_
      refine gt_Reg X hP 7 (by decide) (v := .int (S13.1 7)) q_137 rfl d_Prc_jump_170 ?_
      refine lv_iconst (v := (1 : Int32)) hx hb d_Prc_jump_173 (by decide) ?_
      refine lv_isub hx hb d_Prc_jump_174 ?_
      refine lv_ldc (v := (65535 : Int32)) hx hb hown (hts _ q_517) d_Prc_jump_175 ?_
      refine lv_iand hx hb d_Prc_jump_177 ?_
      refine kv_s (rest := []) X hP hS (c_Stk_pushWord l D cB cI a bz ha S13 (((S13.1 7) - (1 : Int32)) &&& (65535 : Int32))) (kw_Stk_pushWord hts q_300 ⟨Nat.le_of_ble_eq_true rfl, Nat.le_of_ble_eq_true rfl⟩) 5 rfl rfl rfl hl.1 rfl (lv_room (Nat.le_of_ble_eq_true rfl)) d_Prc_jump_178 (fun S15 H locs e16 hP hS => ?_)
      refine lv_aload_n hx hb d_Prc_jump_181 rfl (lv_at hl 1 rfl) ?_
      refine gt_Prc X hP 1 (by decide) (v := .ref (a 2)) q_195 rfl d_Prc_jump_182 ?_
      refine lv_iload_n hx hb d_Prc_jump_185 rfl (lv_at hl 0 rfl) ?_
      refine kv_s (rest := []) X hP hS (c_Reg_jumpLong l D cB cI a bz ha S15 r10) (kw_Reg_jumpLong hts q_513 ⟨Nat.le_of_ble_eq_true rfl, Nat.le_of_ble_eq_true rfl⟩) 2 rfl rfl rfl hl.1 rfl (lv_room (Nat.le_of_ble_eq_true rfl)) d_Prc_jump_186 (fun S17 H locs e18 hP hS => ?_)
      refine lv_goto (tgt := 291) hx hb d_Prc_jump_189 rfl ?_
      refine lv_iconst (v := (1 : Int32)) hx hb d_Prc_jump_291 (by decide) ?_
      exact rt_z X hr hk hP hS (by decide) (by rw [f_Prc_jump, if_neg h1, if_pos h9, bn_eq e12, bs_eq e14, bs_eq e16, bs_eq e18]) d_Prc_jump_292
    ·
      by_cases h19 : x1 = (64 : Int32)
      ·
        refine sw_l (k := (64 : Int32)) (tgt := 244) hx hb d_Prc_jump_1 h19 rfl ?_
        refine lv_aload_n hx hb d_Prc_jump_244 rfl (lv_at hl 0 rfl) ?_
        refine gt_Prc X hP 1 (by decide) (v := .ref (a 2)) q_195 rfl d_Prc_jump_245 ?_
        refine lv_aload_n hx hb d_Prc_jump_248 rfl (lv_at hl 0 rfl) ?_
        refine gt_Prc X hP 3 (by decide) (v := .ref (a 5)) q_197 rfl d_Prc_jump_249 ?_
        refine kv_vs (rest := [.ref (a 2)]) X hP hS (c_Stk_pullByte l D cB cI a bz ha S) (kw_Stk_pullByte hts q_492 ⟨Nat.le_of_ble_eq_true rfl, Nat.le_of_ble_eq_true rfl⟩) 5 rfl rfl rfl hl.1 rfl (lv_room (Nat.le_of_ble_eq_true rfl)) d_Prc_jump_252 (fun r20 S21 H locs e22 hP hS => ?_)
        refine kv_s (rest := []) X hP hS (c_Reg_replaceP l D cB cI a bz ha S21 r20) (kw_Reg_replaceP hts q_497 ⟨Nat.le_of_ble_eq_true rfl, Nat.le_of_ble_eq_true rfl⟩) 2 rfl rfl rfl hl.1 rfl (lv_room (Nat.le_of_ble_eq_true rfl)) d_Prc_jump_255 (fun S23 H locs e24 hP hS => ?_)
        refine lv_aload_n hx hb d_Prc_jump_258 rfl (lv_at hl 0 rfl) ?_
        refine gt_Prc X hP 1 (by decide) (v := .ref (a 2)) q_195 rfl d_Prc_jump_259 ?_
        refine lv_aload_n hx hb d_Prc_jump_262 rfl (lv_at hl 0 rfl) ?_
        refine gt_Prc X hP 3 (by decide) (v := .ref (a 5)) q_197 rfl d_Prc_jump_263 ?_
        refine kv_vs (rest := [.ref (a 2)]) X hP hS (c_Stk_pullWord l D cB cI a bz ha S23) (kw_Stk_pullWord hts q_491 ⟨Nat.le_of_ble_eq_true rfl, Nat.le_of_ble_eq_true rfl⟩) 5 rfl rfl rfl hl.1 rfl (lv_room (Nat.le_of_ble_eq_true rfl)) d_Prc_jump_266 (fun r25 S26 H locs e27 hP hS => ?_)
        refine kv_s (rest := []) X hP hS (c_Reg_jumpTo l D cB cI a bz ha S26 r25) (kw_Reg_jumpTo hts q_502 ⟨Nat.le_of_ble_eq_true rfl, Nat.le_of_ble_eq_true rfl⟩) 2 rfl rfl rfl hl.1 rfl (lv_room (Nat.le_of_ble_eq_true rfl)) d_Prc_jump_269 (fun S28 H locs e29 hP hS => ?_)
        refine lv_aload_n hx hb d_Prc_jump_272 rfl (lv_at hl 0 rfl) ?_
        refine gt_Prc X hP 1 (by decide) (v := .ref (a 2)) q_195 rfl d_Prc_jump_273 ?_
        refine lv_aload_n hx hb d_Prc_jump_276 rfl (lv_at hl 0 rfl) ?_
        refine gt_Prc X hP 3 (by decide) (v := .ref (a 5)) q_197 rfl d_Prc_jump_277 ?_
        refine kv_vs (rest := [.ref (a 2)]) X hP hS (c_Stk_pullByte l D cB cI a bz ha S28) (kw_Stk_pullByte hts q_492 ⟨Nat.le_of_ble_eq_true rfl, Nat.le_of_ble_eq_true rfl⟩) 5 rfl rfl rfl hl.1 rfl (lv_room (Nat.le_of_ble_eq_true rfl)) d_Prc_jump_280 (fun r30 S31 H locs e32 hP hS => ?_)
        refine pt_Reg X hP hS 6 (by decide) (v := r30) (S1 := (pr S31 6 (r30))) q_132 rfl rfl rfl rfl d_Prc_jump_283 (fun H locs hP hS => ?_)
        refine lv_goto (tgt := 291) hx hb d_Prc_jump_286 rfl ?_
        refine lv_iconst (v := (1 : Int32)) hx hb d_Prc_jump_291 (by decide) ?_
        exact rt_z X hr hk hP hS (by decide) (by rw [f_Prc_jump, if_neg h1, if_neg h9, if_pos h19, bn_eq e22, bs_eq e24, bn_eq e27, bs_eq e29, bn_eq e32]) d_Prc_jump_292
      ·
        by_cases h33 : x1 = (76 : Int32)
        ·
          refine sw_l (k := (76 : Int32)) (tgt := 68) hx hb d_Prc_jump_1 h33 rfl ?_
          refine lv_aload_n hx hb d_Prc_jump_68 rfl (lv_at hl 0 rfl) ?_
          refine gt_Prc X hP 1 (by decide) (v := .ref (a 2)) q_195 rfl d_Prc_jump_69 ?_
          refine lv_aload_n hx hb d_Prc_jump_72 rfl (lv_at hl 0 rfl) ?_
          refine gt_Prc X hP 2 (by decide) (v := .ref (a 4)) q_196 rfl d_Prc_jump_73 ?_
          refine kv_vs (rest := [.ref (a 2)]) X hP hS (c_Opd_nextWord l D cB cI a bz ha S) (kw_Opd_nextWord hts q_473 ⟨Nat.le_of_ble_eq_true rfl, Nat.le_of_ble_eq_true rfl⟩) 4 rfl rfl rfl hl.1 rfl (lv_room (Nat.le_of_ble_eq_true rfl)) d_Prc_jump_76 (fun r34 S35 H locs e36 hP hS => ?_)
          refine kv_s (rest := []) X hP hS (c_Reg_jumpTo l D cB cI a bz ha S35 r34) (kw_Reg_jumpTo hts q_502 ⟨Nat.le_of_ble_eq_true rfl, Nat.le_of_ble_eq_true rfl⟩) 2 rfl rfl rfl hl.1 rfl (lv_room (Nat.le_of_ble_eq_true rfl)) d_Prc_jump_79 (fun S37 H locs e38 hP hS => ?_)
          refine lv_goto (tgt := 291) hx hb d_Prc_jump_82 rfl ?_
          refine lv_iconst (v := (1 : Int32)) hx hb d_Prc_jump_291 (by decide) ?_
          exact rt_z X hr hk hP hS (by decide) (by rw [f_Prc_jump, if_neg h1, if_neg h9, if_neg h19, if_pos h33, bn_eq e36, bs_eq e38]) d_Prc_jump_292
        ·
          by_cases h39 : x1 = (92 : Int32)
          ·
            refine sw_l (k := (92 : Int32)) (tgt := 85) hx hb d_Prc_jump_1 h39 rfl ?_
            refine lv_aload_n hx hb d_Prc_jump_85 rfl (lv_at hl 0 rfl) ?_
            refine gt_Prc X hP 1 (by decide) (v := .ref (a 2)) q_195 rfl d_Prc_jump_86 ?_
            refine lv_aload_n hx hb d_Prc_jump_89 rfl (lv_at hl 0 rfl) ?_
            refine gt_Prc X hP 2 (by decide) (v := .ref (a 4)) q_196 rfl d_Prc_jump_90 ?_
            refine kv_vs (rest := [.ref (a 2)]) X hP hS (c_Opd_nextLong l D cB cI a bz ha S) (kw_Opd_nextLong hts q_512 ⟨Nat.le_of_ble_eq_true rfl, Nat.le_of_ble_eq_true rfl⟩) 4 rfl rfl rfl hl.1 rfl (lv_room (Nat.le_of_ble_eq_true rfl)) d_Prc_jump_93 (fun r40 S41 H locs e42 hP hS => ?_)
            refine kv_s (rest := []) X hP hS (c_Reg_jumpLong l D cB cI a bz ha S41 r40) (kw_Reg_jumpLong hts q_513 ⟨Nat.le_of_ble_eq_true rfl, Nat.le_of_ble_eq_true rfl⟩) 2 rfl rfl rfl hl.1 rfl (lv_room (Nat.le_of_ble_eq_true rfl)) d_Prc_jump_96 (fun S43 H locs e44 hP hS => ?_)
            refine lv_goto (tgt := 291) hx hb d_Prc_jump_99 rfl ?_
            refine lv_iconst (v := (1 : Int32)) hx hb d_Prc_jump_291 (by decide) ?_
            exact rt_z X hr hk hP hS (by decide) (by rw [f_Prc_jump, if_neg h1, if_neg h9, if_neg h19, if_neg h33, if_pos h39, bn_eq e42, bs_eq e44]) d_Prc_jump_292
          ·
            by_cases h45 : x1 = (96 : Int32)
            ·
              refine sw_l (k := (96 : Int32)) (tgt := 192) hx hb d_Prc_jump_1 h45 rfl ?_
              refine lv_aload_n hx hb d_Prc_jump_192 rfl (lv_at hl 0 rfl) ?_
              refine gt_Prc X hP 1 (by decide) (v := .ref (a 2)) q_195 rfl d_Prc_jump_193 ?_
              refine lv_aload_n hx hb d_Prc_jump_196 rfl (lv_at hl 0 rfl) ?_
              refine gt_Prc X hP 3 (by decide) (v := .ref (a 5)) q_197 rfl d_Prc_jump_197 ?_
              refine kv_vs (rest := [.ref (a 2)]) X hP hS (c_Stk_pullWord l D cB cI a bz ha S) (kw_Stk_pullWord hts q_491 ⟨Nat.le_of_ble_eq_true rfl, Nat.le_of_ble_eq_true rfl⟩) 5 rfl rfl rfl hl.1 rfl (lv_room (Nat.le_of_ble_eq_true rfl)) d_Prc_jump_200 (fun r46 S47 H locs e48 hP hS => ?_)
              refine lv_iconst (v := (1 : Int32)) hx hb d_Prc_jump_203 (by decide) ?_
              refine lv_iadd hx hb d_Prc_jump_204 ?_
              refine kv_s (rest := []) X hP hS (c_Reg_jumpTo l D cB cI a bz ha S47 (r46 + (1 : Int32))) (kw_Reg_jumpTo hts q_502 ⟨Nat.le_of_ble_eq_true rfl, Nat.le_of_ble_eq_true rfl⟩) 2 rfl rfl rfl hl.1 rfl (lv_room (Nat.le_of_ble_eq_true rfl)) d_Prc_jump_205 (fun S49 H locs e50 hP hS => ?_)
              refine lv_goto (tgt := 291) hx hb d_Prc_jump_208 rfl ?_
              refine lv_iconst (v := (1 : Int32)) hx hb d_Prc_jump_291 (by decide) ?_
              exact rt_z X hr hk hP hS (by decide) (by rw [f_Prc_jump, if_neg h1, if_neg h9, if_neg h19, if_neg h33, if_neg h39, if_pos h45, bn_eq e48, bs_eq e50]) d_Prc_jump_292
            ·
              by_cases h51 : x1 = (107 : Int32)
              ·
                refine sw_l (k := (107 : Int32)) (tgt := 211) hx hb d_Prc_jump_1 h51 rfl ?_
                refine lv_aload_n hx hb d_Prc_jump_211 rfl (lv_at hl 0 rfl) ?_
                refine gt_Prc X hP 1 (by decide) (v := .ref (a 2)) q_195 rfl d_Prc_jump_212 ?_
                refine lv_aload_n hx hb d_Prc_jump_215 rfl (lv_at hl 0 rfl) ?_
                refine gt_Prc X hP 3 (by decide) (v := .ref (a 5)) q_197 rfl d_Prc_jump_216 ?_
                refine kv_vs (rest := [.ref (a 2)]) X hP hS (c_Stk_pullWord l D cB cI a bz ha S) (kw_Stk_pullWord hts q_491 ⟨Nat.le_of_ble_eq_true rfl, Nat.le_of_ble_eq_true rfl⟩) 5 rfl rfl rfl hl.1 rfl (lv_room (Nat.le_of_ble_eq_true rfl)) d_Prc_jump_219 (fun r52 S53 H locs e54 hP hS => ?_)
                refine lv_iconst (v := (1 : Int32)) hx hb d_Prc_jump_222 (by decide) ?_
                refine lv_iadd hx hb d_Prc_jump_223 ?_
                refine kv_s (rest := []) X hP hS (c_Reg_jumpTo l D cB cI a bz ha S53 (r52 + (1 : Int32))) (kw_Reg_jumpTo hts q_502 ⟨Nat.le_of_ble_eq_true rfl, Nat.le_of_ble_eq_true rfl⟩) 2 rfl rfl rfl hl.1 rfl (lv_room (Nat.le_of_ble_eq_true rfl)) d_Prc_jump_224 (fun S55 H locs e56 hP hS => ?_)
                refine lv_aload_n hx hb d_Prc_jump_227 rfl (lv_at hl 0 rfl) ?_
                refine gt_Prc X hP 1 (by decide) (v := .ref (a 2)) q_195 rfl d_Prc_jump_228 ?_
                refine lv_aload_n hx hb d_Prc_jump_231 rfl (lv_at hl 0 rfl) ?_
                refine gt_Prc X hP 3 (by decide) (v := .ref (a 5)) q_197 rfl d_Prc_jump_232 ?_
                refine kv_vs (rest := [.ref (a 2)]) X hP hS (c_Stk_pullByte l D cB cI a bz ha S55) (kw_Stk_pullByte hts q_492 ⟨Nat.le_of_ble_eq_true rfl, Nat.le_of_ble_eq_true rfl⟩) 5 rfl rfl rfl hl.1 rfl (lv_room (Nat.le_of_ble_eq_true rfl)) d_Prc_jump_235 (fun r57 S58 H locs e59 hP hS => ?_)
                refine pt_Reg X hP hS 6 (by decide) (v := r57) (S1 := (pr S58 6 (r57))) q_132 rfl rfl rfl rfl d_Prc_jump_238 (fun H locs hP hS => ?_)
                refine lv_goto (tgt := 291) hx hb d_Prc_jump_241 rfl ?_
                refine lv_iconst (v := (1 : Int32)) hx hb d_Prc_jump_291 (by decide) ?_
                exact rt_z X hr hk hP hS (by decide) (by rw [f_Prc_jump, if_neg h1, if_neg h9, if_neg h19, if_neg h33, if_neg h39, if_neg h45, if_pos h51, bn_eq e54, bs_eq e56, bn_eq e59]) d_Prc_jump_292
              ·
                refine sn_l (tgt := 289) hx hb d_Prc_jump_1 rfl ⟨lv_neT h1 rfl, lv_neT h9 rfl, lv_neT h19 rfl, lv_neT h33 rfl, lv_neT h39 rfl, lv_neT h45 rfl, lv_neT h51 rfl, trivial⟩ rfl ?_
                refine lv_iconst (v := (0 : Int32)) hx hb d_Prc_jump_289 (by decide) ?_
                exact rt_z X hr hk hP hS (by decide) (by rw [f_Prc_jump, if_neg h1, if_neg h9, if_neg h19, if_neg h33, if_neg h39, if_neg h45, if_neg h51]) d_Prc_jump_290
set_option maxHeartbeats 4000000 in
set_option maxRecDepth 100000 in
theorem c_Prc_changeFlags (l : Launch) (D : va_G) (cB cI : ClassId) (a : Nat → Nat) (bz : Nat) (ha : ap a 8) (S : Sc) (x1 : Int32) : MI l y_Prc_changeFlags b_Prc_changeFlags 2 (some .boolean) rm_Prc_changeFlags [.ref (a 3), .int x1] D cB cI (wdC cB cI a) (ow a 8) bz S (f_Prc_changeFlags S x1) := by
  refine met_in R_Prc (by decide) rfl (Nat.le_of_ble_eq_true rfl) (wdC_D ha cB cI) ?_
  intro p e s m below meth c ls X hr hk hl hP hS
  have hx := X.1.1
  have hb := X.1.2.1
  have hown := X.1.2.2.2.1
  have hts := X.1.2.2.2.2
  have hl : lv_has ls 2 [(0, .ref (a 3)), (1, .int x1)] := hl
  refine lv_iload_n hx hb d_Prc_changeFlags_0 rfl (lv_at hl 1 rfl) ?_
  by_cases h1 : x1 = (24 : Int32)
  ·
    refine sw_l (k := (24 : Int32)) (tgt := 144) hx hb d_Prc_changeFlags_1 h1 rfl ?_
    refine lv_aload_n hx hb d_Prc_changeFlags_144 rfl (lv_at hl 0 rfl) ?_
    refine gt_Prc X hP 1 (by decide) (v := .ref (a 2)) q_195 rfl d_Prc_changeFlags_145 ?_
    refine lv_iconst (v := (1 : Int32)) hx hb d_Prc_changeFlags_148 (by decide) ?_
    refine lv_iconst (v := (0 : Int32)) hx hb d_Prc_changeFlags_149 (by decide) ?_
    refine kv_s (rest := []) X hP hS (c_Reg_putFlag l D cB cI a bz ha S (1 : Int32) (0 : Int32)) (kw_Reg_putFlag hts q_305 ⟨Nat.le_of_ble_eq_true rfl, Nat.le_of_ble_eq_true rfl⟩) 2 rfl rfl rfl hl.1 rfl (lv_room (Nat.le_of_ble_eq_true rfl)) d_Prc_changeFlags_150 (fun S2 H locs e3 hP hS => ?_)
    refine lv_goto (tgt := 236) hx hb d_Prc_changeFlags_153 rfl ?_
    refine lv_iconst (v := (1 : Int32)) hx hb d_Prc_changeFlags_236 (by decide) ?_
    exact rt_z X hr hk hP hS (by decide) (by rw [f_Prc_changeFlags, if_pos h1, bs_eq e3]) d_Prc_changeFlags_237
  ·
    by_cases h4 : x1 = (56 : Int32)
    ·
      refine sw_l (k := (56 : Int32)) (tgt := 156) hx hb d_Prc_changeFlags_1 h4 rfl ?_
      refine lv_aload_n hx hb d_Prc_changeFlags_156 rfl (lv_at hl 0 rfl) ?_
      refine gt_Prc X hP 1 (by decide) (v := .ref (a 2)) q_195 rfl d_Prc_changeFlags_157 ?_
      refine lv_iconst (v := (1 : Int32)) hx hb d_Prc_changeFlags_160 (by decide) ?_
      refine lv_iconst (v := (1 : Int32)) hx hb d_Prc_changeFlags_161 (by decide) ?_
      refine kv_s (rest := []) X hP hS (c_Reg_putFlag l D cB cI a bz ha S (1 : Int32) (1 : Int32)) (kw_Reg_putFlag hts q_305 ⟨Nat.le_of_ble_eq_true rfl, Nat.le_of_ble_eq_true rfl⟩) 2 rfl rfl rfl hl.1 rfl (lv_room (Nat.le_of_ble_eq_true rfl)) d_Prc_changeFlags_162 (fun S5 H locs e6 hP hS => ?_)
      refine lv_goto (tgt := 236) hx hb d_Prc_changeFlags_165 rfl ?_
      refine lv_iconst (v := (1 : Int32)) hx hb d_Prc_changeFlags_236 (by decide) ?_
      exact rt_z X hr hk hP hS (by decide) (by rw [f_Prc_changeFlags, if_neg h1, if_pos h4, bs_eq e6]) d_Prc_changeFlags_237
    ·
      by_cases h7 : x1 = (88 : Int32)
      ·
        refine sw_l (k := (88 : Int32)) (tgt := 168) hx hb d_Prc_changeFlags_1 h7 rfl ?_
        refine lv_aload_n hx hb d_Prc_changeFlags_168 rfl (lv_at hl 0 rfl) ?_
        refine gt_Prc X hP 1 (by decide) (v := .ref (a 2)) q_195 rfl d_Prc_changeFlags_169 ?_
        refine lv_iconst (v := (4 : Int32)) hx hb d_Prc_changeFlags_172 (by decide) ?_
        refine lv_iconst (v := (0 : Int32)) hx hb d_Prc_changeFlags_173 (by decide) ?_
        refine kv_s (rest := []) X hP hS (c_Reg_putFlag l D cB cI a bz ha S (4 : Int32) (0 : Int32)) (kw_Reg_putFlag hts q_305 ⟨Nat.le_of_ble_eq_true rfl, Nat.le_of_ble_eq_true rfl⟩) 2 rfl rfl rfl hl.1 rfl (lv_room (Nat.le_of_ble_eq_true rfl)) d_Prc_changeFlags_174 (fun S8 H locs e9 hP hS => ?_)
        refine lv_goto (tgt := 236) hx hb d_Prc_changeFlags_177 rfl ?_
        refine lv_iconst (v := (1 : Int32)) hx hb d_Prc_changeFlags_236 (by decide) ?_
        exact rt_z X hr hk hP hS (by decide) (by rw [f_Prc_changeFlags, if_neg h1, if_neg h4, if_pos h7, bs_eq e9]) d_Prc_changeFlags_237
      ·
        by_cases h10 : x1 = (120 : Int32)
        ·
          refine sw_l (k := (120 : Int32)) (tgt := 180) hx hb d_Prc_changeFlags_1 h10 rfl ?_
          refine lv_aload_n hx hb d_Prc_changeFlags_180 rfl (lv_at hl 0 rfl) ?_
          refine gt_Prc X hP 1 (by decide) (v := .ref (a 2)) q_195 rfl d_Prc_changeFlags_181 ?_
          refine lv_iconst (v := (4 : Int32)) hx hb d_Prc_changeFlags_184 (by decide) ?_
          refine lv_iconst (v := (1 : Int32)) hx hb d_Prc_changeFlags_185 (by decide) ?_
          refine kv_s (rest := []) X hP hS (c_Reg_putFlag l D cB cI a bz ha S (4 : Int32) (1 : Int32)) (kw_Reg_putFlag hts q_305 ⟨Nat.le_of_ble_eq_true rfl, Nat.le_of_ble_eq_true rfl⟩) 2 rfl rfl rfl hl.1 rfl (lv_room (Nat.le_of_ble_eq_true rfl)) d_Prc_changeFlags_186 (fun S11 H locs e12 hP hS => ?_)
          refine lv_goto (tgt := 236) hx hb d_Prc_changeFlags_189 rfl ?_
          refine lv_iconst (v := (1 : Int32)) hx hb d_Prc_changeFlags_236 (by decide) ?_
          exact rt_z X hr hk hP hS (by decide) (by rw [f_Prc_changeFlags, if_neg h1, if_neg h4, if_neg h7, if_pos h10, bs_eq e12]) d_Prc_changeFlags_237
        ·
          by_cases h13 : x1 = (184 : Int32)
          ·
            refine sw_l (k := (184 : Int32)) (tgt := 218) hx hb d_Prc_changeFlags_1 h13 rfl ?_
            refine lv_aload_n hx hb d_Prc_changeFlags_218 rfl (lv_at hl 0 rfl) ?_
            refine gt_Prc X hP 1 (by decide) (v := .ref (a 2)) q_195 rfl d_Prc_changeFlags_219 ?_
            refine lv_bipush (v := (64 : Int32)) hx hb d_Prc_changeFlags_222 (by decide) ?_
            refine lv_iconst (v := (0 : Int32)) hx hb d_Prc_changeFlags_224 (by decide) ?_
            refine kv_s (rest := []) X hP hS (c_Reg_putFlag l D cB cI a bz ha S (64 : Int32) (0 : Int32)) (kw_Reg_putFlag hts q_305 ⟨Nat.le_of_ble_eq_true rfl, Nat.le_of_ble_eq_true rfl⟩) 2 rfl rfl rfl hl.1 rfl (lv_room (Nat.le_of_ble_eq_true rfl)) d_Prc_changeFlags_225 (fun S14 H locs e15 hP hS => ?_)
            refine lv_goto (tgt := 236) hx hb d_Prc_changeFlags_228 rfl ?_
            refine lv_iconst (v := (1 : Int32)) hx hb d_Prc_changeFlags_236 (by decide) ?_
            exact rt_z X hr hk hP hS (by decide) (by rw [f_Prc_changeFlags, if_neg h1, if_neg h4, if_neg h7, if_neg h10, if_pos h13, bs_eq e15]) d_Prc_changeFlags_237
          ·
            by_cases h16 : x1 = (194 : Int32)
            ·
              refine sw_l (k := (194 : Int32)) (tgt := 117) hx hb d_Prc_changeFlags_1 h16 rfl ?_
              refine lv_aload_n hx hb d_Prc_changeFlags_117 rfl (lv_at hl 0 rfl) ?_
              refine gt_Prc X hP 1 (by decide) (v := .ref (a 2)) q_195 rfl d_Prc_changeFlags_118 ?_
              refine lv_aload_n hx hb d_Prc_changeFlags_121 rfl (lv_at hl 0 rfl) ?_
              refine gt_Prc X hP 1 (by decide) (v := .ref (a 2)) q_195 rfl d_Prc_changeFlags_122 ?_
              refine gt_Reg X hP 8 (by decide) (v := .int (S.1 8)) q_141 rfl d_Prc_changeFlags_125 ?_
              refine lv_aload_n hx hb d_Prc_changeFlags_128 rfl (lv_at hl 0 rfl) ?_
              refine gt_Prc X hP 2 (by decide) (v := .ref (a 4)) q_196 rfl d_Prc_changeFlags_129 ?_
              refine kv_vs (rest := [.int (S.1 8), .ref (a 2)]) X hP hS (c_Opd_nextByte l D cB cI a bz ha S) (kw_Opd_nextByte hts q_330 ⟨Nat.le_of_ble_eq_true rfl, Nat.le_of_ble_eq_true rfl⟩) 4 rfl rfl rfl hl.1 rfl (lv_room (Nat.le_of_ble_eq_true rfl)) d_Prc_changeFlags_132 (fun r17 S18 H locs e19 hP hS => ?_)
              refine lv_iconst (v := (-1 : Int32)) hx hb d_Prc_changeFlags_135 (by decide) ?_
              refine lv_ixor hx hb d_Prc_changeFlags_136 ?_
              refine lv_iand hx hb d_Prc_changeFlags_137 ?_
              refine kv_s (rest := []) X hP hS (c_Reg_replaceP l D cB cI a bz ha S18 ((S.1 8) &&& (r17 ^^^ (-1 : Int32)))) (kw_Reg_replaceP hts q_497 ⟨Nat.le_of_ble_eq_true rfl, Nat.le_of_ble_eq_true rfl⟩) 2 rfl rfl rfl hl.1 rfl (lv_room (Nat.le_of_ble_eq_true rfl)) d_Prc_changeFlags_138 (fun S20 H locs e21 hP hS => ?_)
              refine lv_goto (tgt := 236) hx hb d_Prc_changeFlags_141 rfl ?_
              refine lv_iconst (v := (1 : Int32)) hx hb d_Prc_changeFlags_236 (by decide) ?_
              exact rt_z X hr hk hP hS (by decide) (by rw [f_Prc_changeFlags, if_neg h1, if_neg h4, if_neg h7, if_neg h10, if_neg h13, if_pos h16, bn_eq e19, bs_eq e21]) d_Prc_changeFlags_237
            ·
              by_cases h22 : x1 = (216 : Int32)
              ·
                refine sw_l (k := (216 : Int32)) (tgt := 192) hx hb d_Prc_changeFlags_1 h22 rfl ?_
                refine lv_aload_n hx hb d_Prc_changeFlags_192 rfl (lv_at hl 0 rfl) ?_
                refine gt_Prc X hP 1 (by decide) (v := .ref (a 2)) q_195 rfl d_Prc_changeFlags_193 ?_
                refine lv_bipush (v := (8 : Int32)) hx hb d_Prc_changeFlags_196 (by decide) ?_
                refine lv_iconst (v := (0 : Int32)) hx hb d_Prc_changeFlags_198 (by decide) ?_
                refine kv_s (rest := []) X hP hS (c_Reg_putFlag l D cB cI a bz ha S (8 : Int32) (0 : Int32)) (kw_Reg_putFlag hts q_305 ⟨Nat.le_of_ble_eq_true rfl, Nat.le_of_ble_eq_true rfl⟩) 2 rfl rfl rfl hl.1 rfl (lv_room (Nat.le_of_ble_eq_true rfl)) d_Prc_changeFlags_199 (fun S23 H locs e24 hP hS => ?_)
                refine lv_goto (tgt := 236) hx hb d_Prc_changeFlags_202 rfl ?_
                refine lv_iconst (v := (1 : Int32)) hx hb d_Prc_changeFlags_236 (by decide) ?_
                exact rt_z X hr hk hP hS (by decide) (by rw [f_Prc_changeFlags, if_neg h1, if_neg h4, if_neg h7, if_neg h10, if_neg h13, if_neg h16, if_pos h22, bs_eq e24]) d_Prc_changeFlags_237
              ·
                by_cases h25 : x1 = (226 : Int32)
                ·
                  refine sw_l (k := (226 : Int32)) (tgt := 92) hx hb d_Prc_changeFlags_1 h25 rfl ?_
                  refine lv_aload_n hx hb d_Prc_changeFlags_92 rfl (lv_at hl 0 rfl) ?_
                  refine gt_Prc X hP 1 (by decide) (v := .ref (a 2)) q_195 rfl d_Prc_changeFlags_93 ?_
                  refine lv_aload_n hx hb d_Prc_changeFlags_96 rfl (lv_at hl 0 rfl) ?_
                  refine gt_Prc X hP 1 (by decide) (v := .ref (a 2)) q_195 rfl d_Prc_changeFlags_97 ?_
                  refine gt_Reg X hP 8 (by decide) (v := .int (S.1 8)) q_141 rfl d_Prc_changeFlags_100 ?_
                  refine lv_aload_n hx hb d_Prc_changeFlags_103 rfl (lv_at hl 0 rfl) ?_
                  refine gt_Prc X hP 2 (by decide) (v := .ref (a 4)) q_196 rfl d_Prc_changeFlags_104 ?_
                  refine kv_vs (rest := [.int (S.1 8), .ref (a 2)]) X hP hS (c_Opd_nextByte l D cB cI a bz ha S) (kw_Opd_nextByte hts q_330 ⟨Nat.le_of_ble_eq_true rfl, Nat.le_of_ble_eq_true rfl⟩) 4 rfl rfl rfl hl.1 rfl (lv_room (Nat.le_of_ble_eq_true rfl)) d_Prc_changeFlags_107 (fun r26 S27 H locs e28 hP hS => ?_)
                  refine lv_ior hx hb d_Prc_changeFlags_110 ?_
                  refine kv_s (rest := []) X hP hS (c_Reg_replaceP l D cB cI a bz ha S27 ((S.1 8) ||| r26)) (kw_Reg_replaceP hts q_497 ⟨Nat.le_of_ble_eq_true rfl, Nat.le_of_ble_eq_true rfl⟩) 2 rfl rfl rfl hl.1 rfl (lv_room (Nat.le_of_ble_eq_true rfl)) d_Prc_changeFlags_111 (fun S29 H locs e30 hP hS => ?_)
                  refine lv_goto (tgt := 236) hx hb d_Prc_changeFlags_114 rfl ?_
                  refine lv_iconst (v := (1 : Int32)) hx hb d_Prc_changeFlags_236 (by decide) ?_
                  exact rt_z X hr hk hP hS (by decide) (by rw [f_Prc_changeFlags, if_neg h1, if_neg h4, if_neg h7, if_neg h10, if_neg h13, if_neg h16, if_neg h22, if_pos h25, bn_eq e28, bs_eq e30]) d_Prc_changeFlags_237
                ·
                  by_cases h31 : x1 = (234 : Int32)
                  ·
                    refine sw_l (k := (234 : Int32)) (tgt := 231) hx hb d_Prc_changeFlags_1 h31 rfl ?_
                    refine lv_goto (tgt := 236) hx hb d_Prc_changeFlags_231 rfl ?_
                    refine lv_iconst (v := (1 : Int32)) hx hb d_Prc_changeFlags_236 (by decide) ?_
                    exact rt_z X hr hk hP hS (by decide) (by rw [f_Prc_changeFlags, if_neg h1, if_neg h4, if_neg h7, if_neg h10, if_neg h13, if_neg h16, if_neg h22, if_neg h25, if_pos h31]) d_Prc_changeFlags_237
                  ·
                    by_cases h32 : x1 = (248 : Int32)
                    ·
                      refine sw_l (k := (248 : Int32)) (tgt := 205) hx hb d_Prc_changeFlags_1 h32 rfl ?_
                      refine lv_aload_n hx hb d_Prc_changeFlags_205 rfl (lv_at hl 0 rfl) ?_
                      refine gt_Prc X hP 1 (by decide) (v := .ref (a 2)) q_195 rfl d_Prc_changeFlags_206 ?_
                      refine lv_bipush (v := (8 : Int32)) hx hb d_Prc_changeFlags_209 (by decide) ?_
                      refine lv_iconst (v := (1 : Int32)) hx hb d_Prc_changeFlags_211 (by decide) ?_
                      refine kv_s (rest := []) X hP hS (c_Reg_putFlag l D cB cI a bz ha S (8 : Int32) (1 : Int32)) (kw_Reg_putFlag hts q_305 ⟨Nat.le_of_ble_eq_true rfl, Nat.le_of_ble_eq_true rfl⟩) 2 rfl rfl rfl hl.1 rfl (lv_room (Nat.le_of_ble_eq_true rfl)) d_Prc_changeFlags_212 (fun S33 H locs e34 hP hS => ?_)
                      refine lv_goto (tgt := 236) hx hb d_Prc_changeFlags_215 rfl ?_
                      refine lv_iconst (v := (1 : Int32)) hx hb d_Prc_changeFlags_236 (by decide) ?_
                      exact rt_z X hr hk hP hS (by decide) (by rw [f_Prc_changeFlags, if_neg h1, if_neg h4, if_neg h7, if_neg h10, if_neg h13, if_neg h16, if_neg h22, if_neg h25, if_neg h31, if_pos h32, bs_eq e34]) d_Prc_changeFlags_237
                    ·
                      refine sn_l (tgt := 234) hx hb d_Prc_changeFlags_1 rfl ⟨lv_neT h1 rfl, lv_neT h4 rfl, lv_neT h7 rfl, lv_neT h10 rfl, lv_neT h13 rfl, lv_neT h16 rfl, lv_neT h22 rfl, lv_neT h25 rfl, lv_neT h31 rfl, lv_neT h32 rfl, trivial⟩ rfl ?_
                      refine lv_iconst (v := (0 : Int32)) hx hb d_Prc_changeFlags_234 (by decide) ?_
                      exact rt_z X hr hk hP hS (by decide) (by rw [f_Prc_changeFlags, if_neg h1, if_neg h4, if_neg h7, if_neg h10, if_neg h13, if_neg h16, if_neg h22, if_neg h25, if_neg h31, if_neg h32]) d_Prc_changeFlags_235
set_option maxHeartbeats 4000000 in
set_option maxRecDepth 100000 in
theorem tl_Prc_moveBlock_101_0 {p : Program} {l : Launch} {e : Env} {s : State} {m : MethodId} {av : Array Value} {below : List Frame} {meth : Method} {c : Code} {D : va_G} {cB cI : ClassId} {a : Nat → Nat} {bz : Nat} (ha : ap a 8) {F : Int32 × Sc} (X : CX p m c b_Prc_moveBlock 6 s av R_Prc D cB cI (wdC cB cI a) (ow a 8) bz) (hr : meth.sig.returnType = (some .boolean)) (hk : meth.locks = false) {H : Heap} {locs : List Loc} {ls : Array Slot} (S : Sc) (S11 : Sc) (r2 : Int32) (r5 : Int32) (x1 : Int32) (y5 : Int32) (hl : lv_has ls 6 [(5, .int (y5)), (4, .int (r5)), (3, .int (r2)), (2, .int (((S.1 7) - (1 : Int32)))), (0, .ref (a 3)), (1, .int (x1))]) (hP : va_P D classes ((wdC cB cI a) S11) H) (hS : va_S (ow a 8) s.heap H locs) (hF : F = if S11.1 0 = (0 : Int32) then (((1 : Int32), (pr (pr (pr S11 1 ((((S11.1 1) + y5) &&& (f_Reg_indexMask S11)))) 2 ((((S11.1 2) + y5) &&& (f_Reg_indexMask (pr S11 1 ((((S11.1 1) + y5) &&& (f_Reg_indexMask S11)))))))) 0 ((((S11.1 0) - (1 : Int32)) &&& (65535 : Int32)))))) else (bs (f_Reg_jumpTo (pr (pr S11 1 ((((S11.1 1) + y5) &&& (f_Reg_indexMask S11)))) 2 ((((S11.1 2) + y5) &&& (f_Reg_indexMask (pr S11 1 ((((S11.1 1) + y5) &&& (f_Reg_indexMask S11)))))))) ((S.1 7) - (1 : Int32))) (fun S14 => ((1 : Int32), (pr S14 0 ((((S14.1 0) - (1 : Int32)) &&& (65535 : Int32)))))))) : W p l e rm_Prc_moveBlock s m av below meth c H locs 0 0 (MQ below (QI D (wdC cB cI a) (ow a 8) F) av s 0 0 (ow a 8)) (F0 m 101 ls []) := by
  have hx := X.1.1
  have hb := X.1.2.1
  have hown := X.1.2.2.2.1
  have hts := X.1.2.2.2.2
  refine lv_aload_n hx hb d_Prc_moveBlock_101 rfl (lv_at hl 4 rfl) ?_
  refine gt_Prc X hP 1 (by decide) (v := .ref (a 2)) q_195 rfl d_Prc_moveBlock_102 ?_
  refine lv_aload_n hx hb d_Prc_moveBlock_105 rfl (lv_at hl 4 rfl) ?_
  refine gt_Prc X hP 1 (by decide) (v := .ref (a 2)) q_195 rfl d_Prc_moveBlock_106 ?_
  refine gt_Reg X hP 1 (by decide) (v := .int (S11.1 1)) q_113 rfl d_Prc_moveBlock_109 ?_
  refine lv_iload hx hb d_Prc_moveBlock_112 (lv_at hl 0 rfl) ?_
  refine lv_iadd hx hb d_Prc_moveBlock_114 ?_
  refine lv_aload_n hx hb d_Prc_moveBlock_115 rfl (lv_at hl 4 rfl) ?_
  refine gt_Prc X hP 1 (by decide) (v := .ref (a 2)) q_195 rfl d_Prc_moveBlock_116 ?_
  refine kv_v (rest := [.int (((S11.1 1) + y5)), .ref (a 2)]) X hP hS (c_Reg_indexMask l D cB cI a bz ha S11) (kw_Reg_indexMask hts q_528 ⟨Nat.le_of_ble_eq_true rfl, Nat.le_of_ble_eq_true rfl⟩) 2 rfl rfl rfl hl.1 rfl (lv_room (Nat.le_of_ble_eq_true rfl)) d_Prc_moveBlock_119 (fun H locs hP hS => ?_)
  refine lv_iand hx hb d_Prc_moveBlock_122 ?_
  refine pt_Reg X hP hS 1 (by decide) (v := (((S11.1 1) + y5) &&& (f_Reg_indexMask S11))) (S1 := (pr S11 1 ((((S11.1 1) + y5) &&& (f_Reg_indexMask S11))))) q_113 rfl rfl rfl rfl d_Prc_moveBlock_123 (fun H locs hP hS => ?_)
  refine lv_aload_n hx hb d_Prc_moveBlock_126 rfl (lv_at hl 4 rfl) ?_
  refine gt_Prc X hP 1 (by decide) (v := .ref (a 2)) q_195 rfl d_Prc_moveBlock_127 ?_
  refine lv_aload_n hx hb d_Prc_moveBlock_130 rfl (lv_at hl 4 rfl) ?_
  refine gt_Prc X hP 1 (by decide) (v := .ref (a 2)) q_195 rfl d_Prc_moveBlock_131 ?_
  refine gt_Reg X hP 2 (by decide) (v := .int (S11.1 2)) q_117 rfl d_Prc_moveBlock_134 ?_
  refine lv_iload hx hb d_Prc_moveBlock_137 (lv_at hl 0 rfl) ?_
  refine lv_iadd hx hb d_Prc_moveBlock_139 ?_
  refine lv_aload_n hx hb d_Prc_moveBlock_140 rfl (lv_at hl 4 rfl) ?_
  refine gt_Prc X hP 1 (by decide) (v := .ref (a 2)) q_195 rfl d_Prc_moveBlock_141 ?_
  refine kv_v (rest := [.int (((S11.1 2) + y5)), .ref (a 2)]) X hP hS (c_Reg_indexMask l D cB cI a bz ha (pr S11 1 ((((S11.1 1) + y5) &&& (f_Reg_indexMask S11))))) (kw_Reg_indexMask hts q_528 ⟨Nat.le_of_ble_eq_true rfl, Nat.le_of_ble_eq_true rfl⟩) 2 rfl rfl rfl hl.1 rfl (lv_room (Nat.le_of_ble_eq_true rfl)) d_Prc_moveBlock_144 (fun H locs hP hS => ?_)
  refine lv_iand hx hb d_Prc_moveBlock_147 ?_
  refine pt_Reg X hP hS 2 (by decide) (v := (((S11.1 2) + y5) &&& (f_Reg_indexMask (pr S11 1 ((((S11.1 1) + y5) &&& (f_Reg_indexMask S11))))))) (S1 := (pr (pr S11 1 ((((S11.1 1) + y5) &&& (f_Reg_indexMask S11)))) 2 ((((S11.1 2) + y5) &&& (f_Reg_indexMask (pr S11 1 ((((S11.1 1) + y5) &&& (f_Reg_indexMask S11))))))))) q_117 rfl rfl rfl rfl d_Prc_moveBlock_148 (fun H locs hP hS => ?_)
  refine lv_aload_n hx hb d_Prc_moveBlock_151 rfl (lv_at hl 4 rfl) ?_
  refine gt_Prc X hP 1 (by decide) (v := .ref (a 2)) q_195 rfl d_Prc_moveBlock_152 ?_
  refine gt_Reg X hP 0 (by decide) (v := .int (S11.1 0)) q_108 rfl d_Prc_moveBlock_155 ?_
  refine lv_if_eq (tgt := 169) hx hb d_Prc_moveBlock_158 rfl (fun h13 => ?_) (fun h13 => ?_)
  ·
    refine lv_aload_n hx hb d_Prc_moveBlock_169 rfl (lv_at hl 4 rfl) ?_
    refine gt_Prc X hP 1 (by decide) (v := .ref (a 2)) q_195 rfl d_Prc_moveBlock_170 ?_
    refine lv_aload_n hx hb d_Prc_moveBlock_173 rfl (lv_at hl 4 rfl) ?_
    refine gt_Prc X hP 1 (by decide) (v := .ref (a 2)) q_195 rfl d_Prc_moveBlock_174 ?_
    refine gt_Reg X hP 0 (by decide) (v := .int (S11.1 0)) q_108 rfl d_Prc_moveBlock_177 ?_
    refine lv_iconst (v := (1 : Int32)) hx hb d_Prc_moveBlock_180 (by decide) ?_
    refine lv_isub hx hb d_Prc_moveBlock_181 ?_
    refine lv_ldc (v := (65535 : Int32)) hx hb hown (hts _ q_517) d_Prc_moveBlock_182 ?_
    refine lv_iand hx hb d_Prc_moveBlock_184 ?_
    refine pt_Reg X hP hS 0 (by decide) (v := (((S11.1 0) - (1 : Int32)) &&& (65535 : Int32))) (S1 := (pr (pr (pr S11 1 ((((S11.1 1) + y5) &&& (f_Reg_indexMask S11)))) 2 ((((S11.1 2) + y5) &&& (f_Reg_indexMask (pr S11 1 ((((S11.1 1) + y5) &&& (f_Reg_indexMask S11)))))))) 0 ((((S11.1 0) - (1 : Int32)) &&& (65535 : Int32))))) q_108 rfl rfl rfl rfl d_Prc_moveBlock_185 (fun H locs hP hS => ?_)
    refine lv_iconst (v := (1 : Int32)) hx hb d_Prc_moveBlock_188 (by decide) ?_
    exact rt_z X hr hk hP hS (by decide) (by rw [hF, if_pos h13]) d_Prc_moveBlock_189
  ·
    refine lv_aload_n hx hb d_Prc_moveBlock_161 rfl (lv_at hl 4 rfl) ?_
    refine gt_Prc X hP 1 (by decide) (v := .ref (a 2)) q_195 rfl d_Prc_moveBlock_162 ?_
    refine lv_iload_n hx hb d_Prc_moveBlock_165 rfl (lv_at hl 3 rfl) ?_
    refine kv_s (rest := []) X hP hS (c_Reg_jumpTo l D cB cI a bz ha (pr (pr S11 1 ((((S11.1 1) + y5) &&& (f_Reg_indexMask S11)))) 2 ((((S11.1 2) + y5) &&& (f_Reg_indexMask (pr S11 1 ((((S11.1 1) + y5) &&& (f_Reg_indexMask S11)))))))) ((S.1 7) - (1 : Int32))) (kw_Reg_jumpTo hts q_502 ⟨Nat.le_of_ble_eq_true rfl, Nat.le_of_ble_eq_true rfl⟩) 2 rfl rfl rfl hl.1 rfl (lv_room (Nat.le_of_ble_eq_true rfl)) d_Prc_moveBlock_166 (fun S14 H locs e15 hP hS => ?_)
    refine lv_aload_n hx hb d_Prc_moveBlock_169 rfl (lv_at hl 4 rfl) ?_
    refine gt_Prc X hP 1 (by decide) (v := .ref (a 2)) q_195 rfl d_Prc_moveBlock_170 ?_
    refine lv_aload_n hx hb d_Prc_moveBlock_173 rfl (lv_at hl 4 rfl) ?_
    refine gt_Prc X hP 1 (by decide) (v := .ref (a 2)) q_195 rfl d_Prc_moveBlock_174 ?_
    refine gt_Reg X hP 0 (by decide) (v := .int (S14.1 0)) q_108 rfl d_Prc_moveBlock_177 ?_
    refine lv_iconst (v := (1 : Int32)) hx hb d_Prc_moveBlock_180 (by decide) ?_
    refine lv_isub hx hb d_Prc_moveBlock_181 ?_
    refine lv_ldc (v := (65535 : Int32)) hx hb hown (hts _ q_517) d_Prc_moveBlock_182 ?_
    refine lv_iand hx hb d_Prc_moveBlock_184 ?_
    refine pt_Reg X hP hS 0 (by decide) (v := (((S14.1 0) - (1 : Int32)) &&& (65535 : Int32))) (S1 := (pr S14 0 ((((S14.1 0) - (1 : Int32)) &&& (65535 : Int32))))) q_108 rfl rfl rfl rfl d_Prc_moveBlock_185 (fun H locs hP hS => ?_)
    refine lv_iconst (v := (1 : Int32)) hx hb d_Prc_moveBlock_188 (by decide) ?_
    exact rt_z X hr hk hP hS (by decide) (by rw [hF, if_neg h13, bs_eq e15]) d_Prc_moveBlock_189
set_option maxHeartbeats 4000000 in
set_option maxRecDepth 100000 in
theorem tl_Prc_moveBlock_101_1 {p : Program} {l : Launch} {e : Env} {s : State} {m : MethodId} {av : Array Value} {below : List Frame} {meth : Method} {c : Code} {D : va_G} {cB cI : ClassId} {a : Nat → Nat} {bz : Nat} (ha : ap a 8) {F : Int32 × Sc} (X : CX p m c b_Prc_moveBlock 6 s av R_Prc D cB cI (wdC cB cI a) (ow a 8) bz) (hr : meth.sig.returnType = (some .boolean)) (hk : meth.locks = false) {H : Heap} {locs : List Loc} {ls : Array Slot} (S : Sc) (S23 : Sc) (r14 : Int32) (r17 : Int32) (x1 : Int32) (y5 : Int32) (hl : lv_has ls 6 [(5, .int (y5)), (4, .int (r17)), (3, .int (r14)), (2, .int (((S.1 7) - (1 : Int32)))), (0, .ref (a 3)), (1, .int (x1))]) (hP : va_P D classes ((wdC cB cI a) S23) H) (hS : va_S (ow a 8) s.heap H locs) (hF : F = if S23.1 0 = (0 : Int32) then (((1 : Int32), (pr (pr (pr S23 1 ((((S23.1 1) + y5) &&& (f_Reg_indexMask S23)))) 2 ((((S23.1 2) + y5) &&& (f_Reg_indexMask (pr S23 1 ((((S23.1 1) + y5) &&& (f_Reg_indexMask S23)))))))) 0 ((((S23.1 0) - (1 : Int32)) &&& (65535 : Int32)))))) else (bs (f_Reg_jumpTo (pr (pr S23 1 ((((S23.1 1) + y5) &&& (f_Reg_indexMask S23)))) 2 ((((S23.1 2) + y5) &&& (f_Reg_indexMask (pr S23 1 ((((S23.1 1) + y5) &&& (f_Reg_indexMask S23)))))))) ((S.1 7) - (1 : Int32))) (fun S26 => ((1 : Int32), (pr S26 0 ((((S26.1 0) - (1 : Int32)) &&& (65535 : Int32)))))))) : W p l e rm_Prc_moveBlock s m av below meth c H locs 0 0 (MQ below (QI D (wdC cB cI a) (ow a 8) F) av s 0 0 (ow a 8)) (F0 m 101 ls []) := by
  have hx := X.1.1
  have hb := X.1.2.1
  have hown := X.1.2.2.2.1
  have hts := X.1.2.2.2.2
  refine lv_aload_n hx hb d_Prc_moveBlock_101 rfl (lv_at hl 4 rfl) ?_
  refine gt_Prc X hP 1 (by decide) (v := .ref (a 2)) q_195 rfl d_Prc_moveBlock_102 ?_
  refine lv_aload_n hx hb d_Prc_moveBlock_105 rfl (lv_at hl 4 rfl) ?_
  refine gt_Prc X hP 1 (by decide) (v := .ref (a 2)) q_195 rfl d_Prc_moveBlock_106 ?_
  refine gt_Reg X hP 1 (by decide) (v := .int (S23.1 1)) q_113 rfl d_Prc_moveBlock_109 ?_
  refine lv_iload hx hb d_Prc_moveBlock_112 (lv_at hl 0 rfl) ?_
  refine lv_iadd hx hb d_Prc_moveBlock_114 ?_
  refine lv_aload_n hx hb d_Prc_moveBlock_115 rfl (lv_at hl 4 rfl) ?_
  refine gt_Prc X hP 1 (by decide) (v := .ref (a 2)) q_195 rfl d_Prc_moveBlock_116 ?_
  refine kv_v (rest := [.int (((S23.1 1) + y5)), .ref (a 2)]) X hP hS (c_Reg_indexMask l D cB cI a bz ha S23) (kw_Reg_indexMask hts q_528 ⟨Nat.le_of_ble_eq_true rfl, Nat.le_of_ble_eq_true rfl⟩) 2 rfl rfl rfl hl.1 rfl (lv_room (Nat.le_of_ble_eq_true rfl)) d_Prc_moveBlock_119 (fun H locs hP hS => ?_)
  refine lv_iand hx hb d_Prc_moveBlock_122 ?_
  refine pt_Reg X hP hS 1 (by decide) (v := (((S23.1 1) + y5) &&& (f_Reg_indexMask S23))) (S1 := (pr S23 1 ((((S23.1 1) + y5) &&& (f_Reg_indexMask S23))))) q_113 rfl rfl rfl rfl d_Prc_moveBlock_123 (fun H locs hP hS => ?_)
  refine lv_aload_n hx hb d_Prc_moveBlock_126 rfl (lv_at hl 4 rfl) ?_
  refine gt_Prc X hP 1 (by decide) (v := .ref (a 2)) q_195 rfl d_Prc_moveBlock_127 ?_
  refine lv_aload_n hx hb d_Prc_moveBlock_130 rfl (lv_at hl 4 rfl) ?_
  refine gt_Prc X hP 1 (by decide) (v := .ref (a 2)) q_195 rfl d_Prc_moveBlock_131 ?_
  refine gt_Reg X hP 2 (by decide) (v := .int (S23.1 2)) q_117 rfl d_Prc_moveBlock_134 ?_
  refine lv_iload hx hb d_Prc_moveBlock_137 (lv_at hl 0 rfl) ?_
  refine lv_iadd hx hb d_Prc_moveBlock_139 ?_
  refine lv_aload_n hx hb d_Prc_moveBlock_140 rfl (lv_at hl 4 rfl) ?_
  refine gt_Prc X hP 1 (by decide) (v := .ref (a 2)) q_195 rfl d_Prc_moveBlock_141 ?_
  refine kv_v (rest := [.int (((S23.1 2) + y5)), .ref (a 2)]) X hP hS (c_Reg_indexMask l D cB cI a bz ha (pr S23 1 ((((S23.1 1) + y5) &&& (f_Reg_indexMask S23))))) (kw_Reg_indexMask hts q_528 ⟨Nat.le_of_ble_eq_true rfl, Nat.le_of_ble_eq_true rfl⟩) 2 rfl rfl rfl hl.1 rfl (lv_room (Nat.le_of_ble_eq_true rfl)) d_Prc_moveBlock_144 (fun H locs hP hS => ?_)
  refine lv_iand hx hb d_Prc_moveBlock_147 ?_
  refine pt_Reg X hP hS 2 (by decide) (v := (((S23.1 2) + y5) &&& (f_Reg_indexMask (pr S23 1 ((((S23.1 1) + y5) &&& (f_Reg_indexMask S23))))))) (S1 := (pr (pr S23 1 ((((S23.1 1) + y5) &&& (f_Reg_indexMask S23)))) 2 ((((S23.1 2) + y5) &&& (f_Reg_indexMask (pr S23 1 ((((S23.1 1) + y5) &&& (f_Reg_indexMask S23))))))))) q_117 rfl rfl rfl rfl d_Prc_moveBlock_148 (fun H locs hP hS => ?_)
  refine lv_aload_n hx hb d_Prc_moveBlock_151 rfl (lv_at hl 4 rfl) ?_
  refine gt_Prc X hP 1 (by decide) (v := .ref (a 2)) q_195 rfl d_Prc_moveBlock_152 ?_
  refine gt_Reg X hP 0 (by decide) (v := .int (S23.1 0)) q_108 rfl d_Prc_moveBlock_155 ?_
  refine lv_if_eq (tgt := 169) hx hb d_Prc_moveBlock_158 rfl (fun h25 => ?_) (fun h25 => ?_)
  ·
    refine lv_aload_n hx hb d_Prc_moveBlock_169 rfl (lv_at hl 4 rfl) ?_
    refine gt_Prc X hP 1 (by decide) (v := .ref (a 2)) q_195 rfl d_Prc_moveBlock_170 ?_
    refine lv_aload_n hx hb d_Prc_moveBlock_173 rfl (lv_at hl 4 rfl) ?_
    refine gt_Prc X hP 1 (by decide) (v := .ref (a 2)) q_195 rfl d_Prc_moveBlock_174 ?_
    refine gt_Reg X hP 0 (by decide) (v := .int (S23.1 0)) q_108 rfl d_Prc_moveBlock_177 ?_
    refine lv_iconst (v := (1 : Int32)) hx hb d_Prc_moveBlock_180 (by decide) ?_
    refine lv_isub hx hb d_Prc_moveBlock_181 ?_
    refine lv_ldc (v := (65535 : Int32)) hx hb hown (hts _ q_517) d_Prc_moveBlock_182 ?_
    refine lv_iand hx hb d_Prc_moveBlock_184 ?_
    refine pt_Reg X hP hS 0 (by decide) (v := (((S23.1 0) - (1 : Int32)) &&& (65535 : Int32))) (S1 := (pr (pr (pr S23 1 ((((S23.1 1) + y5) &&& (f_Reg_indexMask S23)))) 2 ((((S23.1 2) + y5) &&& (f_Reg_indexMask (pr S23 1 ((((S23.1 1) + y5) &&& (f_Reg_indexMask S23)))))))) 0 ((((S23.1 0) - (1 : Int32)) &&& (65535 : Int32))))) q_108 rfl rfl rfl rfl d_Prc_moveBlock_185 (fun H locs hP hS => ?_)
    refine lv_iconst (v := (1 : Int32)) hx hb d_Prc_moveBlock_188 (by decide) ?_
    exact rt_z X hr hk hP hS (by decide) (by rw [hF, if_pos h25]) d_Prc_moveBlock_189
  ·
    refine lv_aload_n hx hb d_Prc_moveBlock_161 rfl (lv_at hl 4 rfl) ?_
    refine gt_Prc X hP 1 (by decide) (v := .ref (a 2)) q_195 rfl d_Prc_moveBlock_162 ?_
    refine lv_iload_n hx hb d_Prc_moveBlock_165 rfl (lv_at hl 3 rfl) ?_
    refine kv_s (rest := []) X hP hS (c_Reg_jumpTo l D cB cI a bz ha (pr (pr S23 1 ((((S23.1 1) + y5) &&& (f_Reg_indexMask S23)))) 2 ((((S23.1 2) + y5) &&& (f_Reg_indexMask (pr S23 1 ((((S23.1 1) + y5) &&& (f_Reg_indexMask S23)))))))) ((S.1 7) - (1 : Int32))) (kw_Reg_jumpTo hts q_502 ⟨Nat.le_of_ble_eq_true rfl, Nat.le_of_ble_eq_true rfl⟩) 2 rfl rfl rfl hl.1 rfl (lv_room (Nat.le_of_ble_eq_true rfl)) d_Prc_moveBlock_166 (fun S26 H locs e27 hP hS => ?_)
    refine lv_aload_n hx hb d_Prc_moveBlock_169 rfl (lv_at hl 4 rfl) ?_
    refine gt_Prc X hP 1 (by decide) (v := .ref (a 2)) q_195 rfl d_Prc_moveBlock_170 ?_
    refine lv_aload_n hx hb d_Prc_moveBlock_173 rfl (lv_at hl 4 rfl) ?_
    refine gt_Prc X hP 1 (by decide) (v := .ref (a 2)) q_195 rfl d_Prc_moveBlock_174 ?_
    refine gt_Reg X hP 0 (by decide) (v := .int (S26.1 0)) q_108 rfl d_Prc_moveBlock_177 ?_
    refine lv_iconst (v := (1 : Int32)) hx hb d_Prc_moveBlock_180 (by decide) ?_
    refine lv_isub hx hb d_Prc_moveBlock_181 ?_
    refine lv_ldc (v := (65535 : Int32)) hx hb hown (hts _ q_517) d_Prc_moveBlock_182 ?_
    refine lv_iand hx hb d_Prc_moveBlock_184 ?_
    refine pt_Reg X hP hS 0 (by decide) (v := (((S26.1 0) - (1 : Int32)) &&& (65535 : Int32))) (S1 := (pr S26 0 ((((S26.1 0) - (1 : Int32)) &&& (65535 : Int32))))) q_108 rfl rfl rfl rfl d_Prc_moveBlock_185 (fun H locs hP hS => ?_)
    refine lv_iconst (v := (1 : Int32)) hx hb d_Prc_moveBlock_188 (by decide) ?_
    exact rt_z X hr hk hP hS (by decide) (by rw [hF, if_neg h25, bs_eq e27]) d_Prc_moveBlock_189
set_option maxHeartbeats 4000000 in
set_option maxRecDepth 100000 in
theorem c_Prc_moveBlock (l : Launch) (D : va_G) (cB cI : ClassId) (a : Nat → Nat) (bz : Nat) (ha : ap a 8) (S : Sc) (x1 : Int32) : MI l y_Prc_moveBlock b_Prc_moveBlock 6 (some .boolean) rm_Prc_moveBlock [.ref (a 3), .int x1] D cB cI (wdC cB cI a) (ow a 8) bz S (f_Prc_moveBlock S x1) := by
  refine met_in R_Prc (by decide) rfl (Nat.le_of_ble_eq_true rfl) (wdC_D ha cB cI) ?_
  intro p e s m below meth c ls X hr hk hl hP hS
  have hx := X.1.1
  have hb := X.1.2.1
  have hown := X.1.2.2.2.1
  have hts := X.1.2.2.2.2
  have hl : lv_has ls 6 [(0, .ref (a 3)), (1, .int x1)] := hl
  refine lv_iload_n hx hb d_Prc_moveBlock_0 rfl (lv_at hl 1 rfl) ?_
  refine lv_bipush (v := (84 : Int32)) hx hb d_Prc_moveBlock_1 (by decide) ?_
  refine lv_icmp_eq (tgt := 14) hx hb d_Prc_moveBlock_3 rfl (fun h1 => ?_) (fun h1 => ?_)
  ·
    refine lv_aload_n hx hb d_Prc_moveBlock_14 rfl (lv_at hl 0 rfl) ?_
    refine gt_Prc X hP 1 (by decide) (v := .ref (a 2)) q_195 rfl d_Prc_moveBlock_15 ?_
    refine gt_Reg X hP 7 (by decide) (v := .int (S.1 7)) q_137 rfl d_Prc_moveBlock_18 ?_
    refine lv_iconst (v := (1 : Int32)) hx hb d_Prc_moveBlock_21 (by decide) ?_
    refine lv_isub hx hb d_Prc_moveBlock_22 ?_
    refine lv_istore_n hx hb d_Prc_moveBlock_23 rfl hl (Nat.le_of_ble_eq_true rfl) rfl (fun ls hl => ?_)
    have hl : lv_has ls 6 [(2, .int (((S.1 7) - (1 : Int32)))), (0, .ref (a 3)), (1, .int (x1))] := hl
    refine lv_aload_n hx hb d_Prc_moveBlock_24 rfl (lv_at hl 1 rfl) ?_
    refine gt_Prc X hP 2 (by decide) (v := .ref (a 4)) q_196 rfl d_Prc_moveBlock_25 ?_
    refine kv_vs (rest := []) X hP hS (c_Opd_nextByte l D cB cI a bz ha S) (kw_Opd_nextByte hts q_330 ⟨Nat.le_of_ble_eq_true rfl, Nat.le_of_ble_eq_true rfl⟩) 4 rfl rfl rfl hl.1 rfl (lv_room (Nat.le_of_ble_eq_true rfl)) d_Prc_moveBlock_28 (fun r2 S3 H locs e4 hP hS => ?_)
    refine lv_istore_n hx hb d_Prc_moveBlock_31 rfl hl (Nat.le_of_ble_eq_true rfl) rfl (fun ls hl => ?_)
    have hl : lv_has ls 6 [(3, .int (r2)), (2, .int (((S.1 7) - (1 : Int32)))), (0, .ref (a 3)), (1, .int (x1))] := hl
    refine lv_aload_n hx hb d_Prc_moveBlock_32 rfl (lv_at hl 2 rfl) ?_
    refine gt_Prc X hP 2 (by decide) (v := .ref (a 4)) q_196 rfl d_Prc_moveBlock_33 ?_
    refine kv_vs (rest := []) X hP hS (c_Opd_nextByte l D cB cI a bz ha S3) (kw_Opd_nextByte hts q_330 ⟨Nat.le_of_ble_eq_true rfl, Nat.le_of_ble_eq_true rfl⟩) 4 rfl rfl rfl hl.1 rfl (lv_room (Nat.le_of_ble_eq_true rfl)) d_Prc_moveBlock_36 (fun r5 S6 H locs e7 hP hS => ?_)
    refine lv_istore hx hb d_Prc_moveBlock_39 hl (Nat.le_of_ble_eq_true rfl) rfl (fun ls hl => ?_)
    have hl : lv_has ls 6 [(4, .int (r5)), (3, .int (r2)), (2, .int (((S.1 7) - (1 : Int32)))), (0, .ref (a 3)), (1, .int (x1))] := hl
    refine lv_iload_n hx hb d_Prc_moveBlock_41 rfl (lv_at hl 4 rfl) ?_
    refine lv_bipush (v := (84 : Int32)) hx hb d_Prc_moveBlock_42 (by decide) ?_
    refine lv_icmp_ne (tgt := 51) hx hb d_Prc_moveBlock_44 rfl (fun h => absurd h1 h) (fun _ => ?_)
    refine lv_iconst (v := (1 : Int32)) hx hb d_Prc_moveBlock_47 (by decide) ?_
    refine lv_goto (tgt := 52) hx hb d_Prc_moveBlock_48 rfl ?_
    refine lv_istore hx hb d_Prc_moveBlock_52 hl (Nat.le_of_ble_eq_true rfl) rfl (fun ls hl => ?_)
    have hl : lv_has ls 6 [(5, .int ((1 : Int32))), (4, .int (r5)), (3, .int (r2)), (2, .int (((S.1 7) - (1 : Int32)))), (0, .ref (a 3)), (1, .int (x1))] := hl
    refine lv_aload_n hx hb d_Prc_moveBlock_54 rfl (lv_at hl 4 rfl) ?_
    refine gt_Prc X hP 1 (by decide) (v := .ref (a 2)) q_195 rfl d_Prc_moveBlock_55 ?_
    refine lv_iload_n hx hb d_Prc_moveBlock_58 rfl (lv_at hl 2 rfl) ?_
    refine pt_Reg X hP hS 5 (by decide) (v := r2) (S1 := (pr S6 5 (r2))) q_130 rfl rfl rfl rfl d_Prc_moveBlock_59 (fun H locs hP hS => ?_)
    refine lv_aload_n hx hb d_Prc_moveBlock_62 rfl (lv_at hl 4 rfl) ?_
    refine gt_Prc X hP 0 (by decide) (v := .ref (a 1)) q_194 rfl d_Prc_moveBlock_63 ?_
    refine lv_iload_n hx hb d_Prc_moveBlock_66 rfl (lv_at hl 2 rfl) ?_
    refine lv_bipush (v := (16 : Int32)) hx hb d_Prc_moveBlock_67 (by decide) ?_
    refine lv_ishl hx hb d_Prc_moveBlock_69 ?_
    refine lv_aload_n hx hb d_Prc_moveBlock_70 rfl (lv_at hl 4 rfl) ?_
    refine gt_Prc X hP 1 (by decide) (v := .ref (a 2)) q_195 rfl d_Prc_moveBlock_71 ?_
    refine gt_Reg X hP 2 (by decide) (v := .int (S6.1 2)) q_117 rfl d_Prc_moveBlock_74 ?_
    refine lv_ior hx hb d_Prc_moveBlock_77 ?_
    refine lv_aload_n hx hb d_Prc_moveBlock_78 rfl (lv_at hl 4 rfl) ?_
    refine gt_Prc X hP 0 (by decide) (v := .ref (a 1)) q_194 rfl d_Prc_moveBlock_79 ?_
    refine lv_iload hx hb d_Prc_moveBlock_82 (lv_at hl 1 rfl) ?_
    refine lv_bipush (v := (16 : Int32)) hx hb d_Prc_moveBlock_84 (by decide) ?_
    refine lv_ishl hx hb d_Prc_moveBlock_86 ?_
    refine lv_aload_n hx hb d_Prc_moveBlock_87 rfl (lv_at hl 4 rfl) ?_
    refine gt_Prc X hP 1 (by decide) (v := .ref (a 2)) q_195 rfl d_Prc_moveBlock_88 ?_
    refine gt_Reg X hP 1 (by decide) (v := .int (S6.1 1)) q_113 rfl d_Prc_moveBlock_91 ?_
    refine lv_ior hx hb d_Prc_moveBlock_94 ?_
    refine kv_vs (rest := [.int (((r2 <<< ((16 : Int32) &&& 31)) ||| (S6.1 2))), .ref (a 1)]) X hP hS (c_Bus_readByte l D cB cI a bz ha (pr S6 5 (r2)) ((r5 <<< ((16 : Int32) &&& 31)) ||| (S6.1 1))) (kw_Bus_readByte hts q_526 ⟨Nat.le_of_ble_eq_true rfl, Nat.le_of_ble_eq_true rfl⟩) 1 rfl rfl rfl hl.1 rfl (lv_room (Nat.le_of_ble_eq_true rfl)) d_Prc_moveBlock_95 (fun r8 S9 H locs e10 hP hS => ?_)
    refine kv_s (rest := []) X hP hS (c_Bus_writeByte l D cB cI a bz ha S9 ((r2 <<< ((16 : Int32) &&& 31)) ||| (S6.1 2)) r8) (kw_Bus_writeByte hts q_527 ⟨Nat.le_of_ble_eq_true rfl, Nat.le_of_ble_eq_true rfl⟩) 1 rfl rfl rfl hl.1 rfl (lv_room (Nat.le_of_ble_eq_true rfl)) d_Prc_moveBlock_98 (fun S11 H locs e12 hP hS => ?_)
    exact tl_Prc_moveBlock_101_0 ha X hr hk S S11 r2 r5 x1 (1 : Int32) hl hP hS (by rw [f_Prc_moveBlock, if_pos h1, bn_eq e4, bn_eq e7, bn_eq e10, bs_eq e12])
  ·
    refine lv_iload_n hx hb d_Prc_moveBlock_6 rfl (lv_at hl 1 rfl) ?_
    refine lv_bipush (v := (68 : Int32)) hx hb d_Prc_moveBlock_7 (by decide) ?_
    refine lv_icmp_eq (tgt := 14) hx hb d_Prc_moveBlock_9 rfl (fun h13 => ?_) (fun h13 => ?_)
    ·
      refine lv_aload_n hx hb d_Prc_moveBlock_14 rfl (lv_at hl 0 rfl) ?_
      refine gt_Prc X hP 1 (by decide) (v := .ref (a 2)) q_195 rfl d_Prc_moveBlock_15 ?_
      refine gt_Reg X hP 7 (by decide) (v := .int (S.1 7)) q_137 rfl d_Prc_moveBlock_18 ?_
      refine lv_iconst (v := (1 : Int32)) hx hb d_Prc_moveBlock_21 (by decide) ?_
      refine lv_isub hx hb d_Prc_moveBlock_22 ?_
      refine lv_istore_n hx hb d_Prc_moveBlock_23 rfl hl (Nat.le_of_ble_eq_true rfl) rfl (fun ls hl => ?_)
      have hl : lv_has ls 6 [(2, .int (((S.1 7) - (1 : Int32)))), (0, .ref (a 3)), (1, .int (x1))] := hl
      refine lv_aload_n hx hb d_Prc_moveBlock_24 rfl (lv_at hl 1 rfl) ?_
      refine gt_Prc X hP 2 (by decide) (v := .ref (a 4)) q_196 rfl d_Prc_moveBlock_25 ?_
      refine kv_vs (rest := []) X hP hS (c_Opd_nextByte l D cB cI a bz ha S) (kw_Opd_nextByte hts q_330 ⟨Nat.le_of_ble_eq_true rfl, Nat.le_of_ble_eq_true rfl⟩) 4 rfl rfl rfl hl.1 rfl (lv_room (Nat.le_of_ble_eq_true rfl)) d_Prc_moveBlock_28 (fun r14 S15 H locs e16 hP hS => ?_)
      refine lv_istore_n hx hb d_Prc_moveBlock_31 rfl hl (Nat.le_of_ble_eq_true rfl) rfl (fun ls hl => ?_)
      have hl : lv_has ls 6 [(3, .int (r14)), (2, .int (((S.1 7) - (1 : Int32)))), (0, .ref (a 3)), (1, .int (x1))] := hl
      refine lv_aload_n hx hb d_Prc_moveBlock_32 rfl (lv_at hl 2 rfl) ?_
      refine gt_Prc X hP 2 (by decide) (v := .ref (a 4)) q_196 rfl d_Prc_moveBlock_33 ?_
      refine kv_vs (rest := []) X hP hS (c_Opd_nextByte l D cB cI a bz ha S15) (kw_Opd_nextByte hts q_330 ⟨Nat.le_of_ble_eq_true rfl, Nat.le_of_ble_eq_true rfl⟩) 4 rfl rfl rfl hl.1 rfl (lv_room (Nat.le_of_ble_eq_true rfl)) d_Prc_moveBlock_36 (fun r17 S18 H locs e19 hP hS => ?_)
      refine lv_istore hx hb d_Prc_moveBlock_39 hl (Nat.le_of_ble_eq_true rfl) rfl (fun ls hl => ?_)
      have hl : lv_has ls 6 [(4, .int (r17)), (3, .int (r14)), (2, .int (((S.1 7) - (1 : Int32)))), (0, .ref (a 3)), (1, .int (x1))] := hl
      refine lv_iload_n hx hb d_Prc_moveBlock_41 rfl (lv_at hl 4 rfl) ?_
      refine lv_bipush (v := (84 : Int32)) hx hb d_Prc_moveBlock_42 (by decide) ?_
      refine lv_icmp_ne (tgt := 51) hx hb d_Prc_moveBlock_44 rfl (fun _ => ?_) (fun h => absurd h h1)
      refine lv_iconst (v := (-1 : Int32)) hx hb d_Prc_moveBlock_51 (by decide) ?_
      refine lv_istore hx hb d_Prc_moveBlock_52 hl (Nat.le_of_ble_eq_true rfl) rfl (fun ls hl => ?_)
      have hl : lv_has ls 6 [(5, .int ((-1 : Int32))), (4, .int (r17)), (3, .int (r14)), (2, .int (((S.1 7) - (1 : Int32)))), (0, .ref (a 3)), (1, .int (x1))] := hl
      refine lv_aload_n hx hb d_Prc_moveBlock_54 rfl (lv_at hl 4 rfl) ?_
      refine gt_Prc X hP 1 (by decide) (v := .ref (a 2)) q_195 rfl d_Prc_moveBlock_55 ?_
      refine lv_iload_n hx hb d_Prc_moveBlock_58 rfl (lv_at hl 2 rfl) ?_
      refine pt_Reg X hP hS 5 (by decide) (v := r14) (S1 := (pr S18 5 (r14))) q_130 rfl rfl rfl rfl d_Prc_moveBlock_59 (fun H locs hP hS => ?_)
      refine lv_aload_n hx hb d_Prc_moveBlock_62 rfl (lv_at hl 4 rfl) ?_
      refine gt_Prc X hP 0 (by decide) (v := .ref (a 1)) q_194 rfl d_Prc_moveBlock_63 ?_
      refine lv_iload_n hx hb d_Prc_moveBlock_66 rfl (lv_at hl 2 rfl) ?_
      refine lv_bipush (v := (16 : Int32)) hx hb d_Prc_moveBlock_67 (by decide) ?_
      refine lv_ishl hx hb d_Prc_moveBlock_69 ?_
      refine lv_aload_n hx hb d_Prc_moveBlock_70 rfl (lv_at hl 4 rfl) ?_
      refine gt_Prc X hP 1 (by decide) (v := .ref (a 2)) q_195 rfl d_Prc_moveBlock_71 ?_
      refine gt_Reg X hP 2 (by decide) (v := .int (S18.1 2)) q_117 rfl d_Prc_moveBlock_74 ?_
      refine lv_ior hx hb d_Prc_moveBlock_77 ?_
      refine lv_aload_n hx hb d_Prc_moveBlock_78 rfl (lv_at hl 4 rfl) ?_
      refine gt_Prc X hP 0 (by decide) (v := .ref (a 1)) q_194 rfl d_Prc_moveBlock_79 ?_
      refine lv_iload hx hb d_Prc_moveBlock_82 (lv_at hl 1 rfl) ?_
      refine lv_bipush (v := (16 : Int32)) hx hb d_Prc_moveBlock_84 (by decide) ?_
      refine lv_ishl hx hb d_Prc_moveBlock_86 ?_
      refine lv_aload_n hx hb d_Prc_moveBlock_87 rfl (lv_at hl 4 rfl) ?_
      refine gt_Prc X hP 1 (by decide) (v := .ref (a 2)) q_195 rfl d_Prc_moveBlock_88 ?_
      refine gt_Reg X hP 1 (by decide) (v := .int (S18.1 1)) q_113 rfl d_Prc_moveBlock_91 ?_
      refine lv_ior hx hb d_Prc_moveBlock_94 ?_
      refine kv_vs (rest := [.int (((r14 <<< ((16 : Int32) &&& 31)) ||| (S18.1 2))), .ref (a 1)]) X hP hS (c_Bus_readByte l D cB cI a bz ha (pr S18 5 (r14)) ((r17 <<< ((16 : Int32) &&& 31)) ||| (S18.1 1))) (kw_Bus_readByte hts q_526 ⟨Nat.le_of_ble_eq_true rfl, Nat.le_of_ble_eq_true rfl⟩) 1 rfl rfl rfl hl.1 rfl (lv_room (Nat.le_of_ble_eq_true rfl)) d_Prc_moveBlock_95 (fun r20 S21 H locs e22 hP hS => ?_)
      refine kv_s (rest := []) X hP hS (c_Bus_writeByte l D cB cI a bz ha S21 ((r14 <<< ((16 : Int32) &&& 31)) ||| (S18.1 2)) r20) (kw_Bus_writeByte hts q_527 ⟨Nat.le_of_ble_eq_true rfl, Nat.le_of_ble_eq_true rfl⟩) 1 rfl rfl rfl hl.1 rfl (lv_room (Nat.le_of_ble_eq_true rfl)) d_Prc_moveBlock_98 (fun S23 H locs e24 hP hS => ?_)
      exact tl_Prc_moveBlock_101_1 ha X hr hk S S23 r14 r17 x1 (-1 : Int32) hl hP hS (by rw [f_Prc_moveBlock, if_neg h1, if_pos h13, bn_eq e16, bn_eq e19, bn_eq e22, bs_eq e24])
    ·
      refine lv_iconst (v := (0 : Int32)) hx hb d_Prc_moveBlock_12 (by decide) ?_
      exact rt_z X hr hk hP hS (by decide) (by rw [f_Prc_moveBlock, if_neg h1, if_neg h13]) d_Prc_moveBlock_13
