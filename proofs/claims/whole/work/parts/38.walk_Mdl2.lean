set_option maxHeartbeats 4000000 in
set_option maxRecDepth 100000 in
theorem c_Mdl_find (l : Launch) (D : va_G) (cB cI : ClassId) (a : Nat → Nat) (bz : Nat) (ha : ap a 3) (S : Sc) (x1 : Int32) : MI l y_Mdl_find b_Mdl_find 4 (some .boolean) rm_Mdl_find [.ref (a 0), .int x1] D cB cI (wdT cI a) (ow a 3) bz S (f_Mdl_find S x1) := by
  refine met_in R_Mdl (by decide) rfl (Nat.le_of_ble_eq_true rfl) (wdT_D ha cI) ?_
  intro p e s m below meth c ls X hr hk hl hP hS
  have hx := X.1.1
  have hb := X.1.2.1
  have hown := X.1.2.2.2.1
  have hts := X.1.2.2.2.2
  have hl : lv_has ls 4 [(0, .ref (a 0)), (1, .int x1)] := hl
  refine lv_iload_n hx hb d_Mdl_find_0 rfl (lv_at hl 1 rfl) ?_
  refine lv_iconst (v := (5 : Int32)) hx hb d_Mdl_find_1 (by decide) ?_
  refine lv_icmp_eq (tgt := 11) hx hb d_Mdl_find_2 rfl (fun h1 => ?_) (fun h1 => ?_)
  ·
    refine lv_aload_n hx hb d_Mdl_find_11 rfl (lv_at hl 0 rfl) ?_
    refine lv_iload_n hx hb d_Mdl_find_12 rfl (lv_at hl 1 rfl) ?_
    refine lv_bipush (v := (21 : Int32)) hx hb d_Mdl_find_13 (by decide) ?_
    refine lv_icmp_ne (tgt := 25) hx hb d_Mdl_find_15 rfl (fun _ => ?_) (fun h => absurd h (by rw [h1]; decide))
    refine lv_iconst (v := (0 : Int32)) hx hb d_Mdl_find_25 (by decide) ?_
    refine kv_s (rest := []) X hP hS (c_Mdl_direct l D cB cI a bz ha S (0 : Int32)) (kw_Mdl_direct hts q_712 ⟨Nat.le_of_ble_eq_true rfl, Nat.le_of_ble_eq_true rfl⟩) 0 rfl rfl rfl hl.1 rfl (lv_room (Nat.le_of_ble_eq_true rfl)) d_Mdl_find_26 (fun S2 H locs e3 hP hS => ?_)
    refine lv_goto (tgt := 359) hx hb d_Mdl_find_29 rfl ?_
    refine lv_iconst (v := (1 : Int32)) hx hb d_Mdl_find_359 (by decide) ?_
    exact rt_z X hr hk hP hS (by decide) (by rw [f_Mdl_find, if_pos h1, bs_eq e3]) d_Mdl_find_360
  ·
    refine lv_iload_n hx hb d_Mdl_find_5 rfl (lv_at hl 1 rfl) ?_
    refine lv_bipush (v := (21 : Int32)) hx hb d_Mdl_find_6 (by decide) ?_
    refine lv_icmp_ne (tgt := 32) hx hb d_Mdl_find_8 rfl (fun h4 => ?_) (fun h4 => ?_)
    ·
      refine lv_iload_n hx hb d_Mdl_find_32 rfl (lv_at hl 1 rfl) ?_
      refine lv_iconst (v := (3 : Int32)) hx hb d_Mdl_find_33 (by decide) ?_
      refine lv_icmp_ne (tgt := 61) hx hb d_Mdl_find_34 rfl (fun h5 => ?_) (fun h5 => ?_)
      ·
        refine lv_iload_n hx hb d_Mdl_find_61 rfl (lv_at hl 1 rfl) ?_
        refine lv_bipush (v := (13 : Int32)) hx hb d_Mdl_find_62 (by decide) ?_
        refine lv_icmp_eq (tgt := 79) hx hb d_Mdl_find_64 rfl (fun h6 => ?_) (fun h6 => ?_)
        ·
          refine lv_aload_n hx hb d_Mdl_find_79 rfl (lv_at hl 0 rfl) ?_
          refine lv_aload_n hx hb d_Mdl_find_80 rfl (lv_at hl 0 rfl) ?_
          refine gt_Mdl X hP 6 (by decide) (v := .int (S.1 5)) q_569 rfl d_Mdl_find_81 ?_
          refine lv_bipush (v := (16 : Int32)) hx hb d_Mdl_find_84 (by decide) ?_
          refine lv_ishl hx hb d_Mdl_find_86 ?_
          refine lv_aload_n hx hb d_Mdl_find_87 rfl (lv_at hl 0 rfl) ?_
          refine kv_vs (rest := [.int (((S.1 5) <<< ((16 : Int32) &&& 31))), .ref (a 0)]) X hP hS (c_Mdl_nextWord l D cB cI a bz ha S) (kw_Mdl_nextWord hts q_716 ⟨Nat.le_of_ble_eq_true rfl, Nat.le_of_ble_eq_true rfl⟩) 0 rfl rfl rfl hl.1 rfl (lv_room (Nat.le_of_ble_eq_true rfl)) d_Mdl_find_88 (fun r7 S8 H locs e9 hP hS => ?_)
          refine lv_iadd hx hb d_Mdl_find_91 ?_
          refine lv_iload_n hx hb d_Mdl_find_92 rfl (lv_at hl 1 rfl) ?_
          refine lv_bipush (v := (25 : Int32)) hx hb d_Mdl_find_93 (by decide) ?_
          refine lv_icmp_ne (tgt := 105) hx hb d_Mdl_find_95 rfl (fun _ => ?_) (fun h => absurd h (by rw [h6]; decide))
          refine lv_iload_n hx hb d_Mdl_find_105 rfl (lv_at hl 1 rfl) ?_
          refine lv_bipush (v := (29 : Int32)) hx hb d_Mdl_find_106 (by decide) ?_
          refine lv_icmp_ne (tgt := 118) hx hb d_Mdl_find_108 rfl (fun _ => ?_) (fun h => absurd h (by rw [h6]; decide))
          refine lv_iconst (v := (0 : Int32)) hx hb d_Mdl_find_118 (by decide) ?_
          refine lv_iadd hx hb d_Mdl_find_119 ?_
          refine kv_s (rest := []) X hP hS (c_Mdl_far l D cB cI a bz ha S8 ((((S.1 5) <<< ((16 : Int32) &&& 31)) + r7) + (0 : Int32))) (kw_Mdl_far hts q_720 ⟨Nat.le_of_ble_eq_true rfl, Nat.le_of_ble_eq_true rfl⟩) 0 rfl rfl rfl hl.1 rfl (lv_room (Nat.le_of_ble_eq_true rfl)) d_Mdl_find_120 (fun S10 H locs e11 hP hS => ?_)
          refine lv_goto (tgt := 359) hx hb d_Mdl_find_123 rfl ?_
          refine lv_iconst (v := (1 : Int32)) hx hb d_Mdl_find_359 (by decide) ?_
          exact rt_z X hr hk hP hS (by decide) (by rw [f_Mdl_find, if_neg h1, if_neg h4, if_neg h5, if_pos h6, bn_eq e9, bs_eq e11]) d_Mdl_find_360
        ·
          refine lv_iload_n hx hb d_Mdl_find_67 rfl (lv_at hl 1 rfl) ?_
          refine lv_bipush (v := (25 : Int32)) hx hb d_Mdl_find_68 (by decide) ?_
          refine lv_icmp_eq (tgt := 79) hx hb d_Mdl_find_70 rfl (fun h12 => ?_) (fun h12 => ?_)
          ·
            refine lv_aload_n hx hb d_Mdl_find_79 rfl (lv_at hl 0 rfl) ?_
            refine lv_aload_n hx hb d_Mdl_find_80 rfl (lv_at hl 0 rfl) ?_
            refine gt_Mdl X hP 6 (by decide) (v := .int (S.1 5)) q_569 rfl d_Mdl_find_81 ?_
            refine lv_bipush (v := (16 : Int32)) hx hb d_Mdl_find_84 (by decide) ?_
            refine lv_ishl hx hb d_Mdl_find_86 ?_
            refine lv_aload_n hx hb d_Mdl_find_87 rfl (lv_at hl 0 rfl) ?_
            refine kv_vs (rest := [.int (((S.1 5) <<< ((16 : Int32) &&& 31))), .ref (a 0)]) X hP hS (c_Mdl_nextWord l D cB cI a bz ha S) (kw_Mdl_nextWord hts q_716 ⟨Nat.le_of_ble_eq_true rfl, Nat.le_of_ble_eq_true rfl⟩) 0 rfl rfl rfl hl.1 rfl (lv_room (Nat.le_of_ble_eq_true rfl)) d_Mdl_find_88 (fun r13 S14 H locs e15 hP hS => ?_)
            refine lv_iadd hx hb d_Mdl_find_91 ?_
            refine lv_iload_n hx hb d_Mdl_find_92 rfl (lv_at hl 1 rfl) ?_
            refine lv_bipush (v := (25 : Int32)) hx hb d_Mdl_find_93 (by decide) ?_
            refine lv_icmp_ne (tgt := 105) hx hb d_Mdl_find_95 rfl (fun h => absurd h12 h) (fun _ => ?_)
            refine lv_aload_n hx hb d_Mdl_find_98 rfl (lv_at hl 0 rfl) ?_
            refine gt_Mdl X hP 3 (by decide) (v := .int (S14.1 2)) q_566 rfl d_Mdl_find_99 ?_
            refine lv_goto (tgt := 119) hx hb d_Mdl_find_102 rfl ?_
            refine lv_iadd hx hb d_Mdl_find_119 ?_
            refine kv_s (rest := []) X hP hS (c_Mdl_far l D cB cI a bz ha S14 ((((S.1 5) <<< ((16 : Int32) &&& 31)) + r13) + (S14.1 2))) (kw_Mdl_far hts q_720 ⟨Nat.le_of_ble_eq_true rfl, Nat.le_of_ble_eq_true rfl⟩) 0 rfl rfl rfl hl.1 rfl (lv_room (Nat.le_of_ble_eq_true rfl)) d_Mdl_find_120 (fun S16 H locs e17 hP hS => ?_)
            refine lv_goto (tgt := 359) hx hb d_Mdl_find_123 rfl ?_
            refine lv_iconst (v := (1 : Int32)) hx hb d_Mdl_find_359 (by decide) ?_
            exact rt_z X hr hk hP hS (by decide) (by rw [f_Mdl_find, if_neg h1, if_neg h4, if_neg h5, if_neg h6, if_pos h12, bn_eq e15, bs_eq e17]) d_Mdl_find_360
          ·
            refine lv_iload_n hx hb d_Mdl_find_73 rfl (lv_at hl 1 rfl) ?_
            refine lv_bipush (v := (29 : Int32)) hx hb d_Mdl_find_74 (by decide) ?_
            refine lv_icmp_ne (tgt := 126) hx hb d_Mdl_find_76 rfl (fun h18 => ?_) (fun h18 => ?_)
            ·
              refine lv_iload_n hx hb d_Mdl_find_126 rfl (lv_at hl 1 rfl) ?_
              refine lv_bipush (v := (15 : Int32)) hx hb d_Mdl_find_127 (by decide) ?_
              refine lv_icmp_eq (tgt := 138) hx hb d_Mdl_find_129 rfl (fun h19 => ?_) (fun h19 => ?_)
              ·
                refine lv_aload_n hx hb d_Mdl_find_138 rfl (lv_at hl 0 rfl) ?_
                refine lv_aload_n hx hb d_Mdl_find_139 rfl (lv_at hl 0 rfl) ?_
                refine kv_vs (rest := [.ref (a 0)]) X hP hS (c_Mdl_nextLong l D cB cI a bz ha S) (kw_Mdl_nextLong hts q_724 ⟨Nat.le_of_ble_eq_true rfl, Nat.le_of_ble_eq_true rfl⟩) 0 rfl rfl rfl hl.1 rfl (lv_room (Nat.le_of_ble_eq_true rfl)) d_Mdl_find_140 (fun r20 S21 H locs e22 hP hS => ?_)
                refine lv_iload_n hx hb d_Mdl_find_143 rfl (lv_at hl 1 rfl) ?_
                refine lv_bipush (v := (31 : Int32)) hx hb d_Mdl_find_144 (by decide) ?_
                refine lv_icmp_ne (tgt := 156) hx hb d_Mdl_find_146 rfl (fun _ => ?_) (fun h => absurd h (by rw [h19]; decide))
                refine lv_iconst (v := (0 : Int32)) hx hb d_Mdl_find_156 (by decide) ?_
                refine lv_iadd hx hb d_Mdl_find_157 ?_
                refine kv_s (rest := []) X hP hS (c_Mdl_far l D cB cI a bz ha S21 (r20 + (0 : Int32))) (kw_Mdl_far hts q_720 ⟨Nat.le_of_ble_eq_true rfl, Nat.le_of_ble_eq_true rfl⟩) 0 rfl rfl rfl hl.1 rfl (lv_room (Nat.le_of_ble_eq_true rfl)) d_Mdl_find_158 (fun S23 H locs e24 hP hS => ?_)
                refine lv_goto (tgt := 359) hx hb d_Mdl_find_161 rfl ?_
                refine lv_iconst (v := (1 : Int32)) hx hb d_Mdl_find_359 (by decide) ?_
                exact rt_z X hr hk hP hS (by decide) (by rw [f_Mdl_find, if_neg h1, if_neg h4, if_neg h5, if_neg h6, if_neg h12, if_neg h18, if_pos h19, bn_eq e22, bs_eq e24]) d_Mdl_find_360
              ·
                refine lv_iload_n hx hb d_Mdl_find_132 rfl (lv_at hl 1 rfl) ?_
                refine lv_bipush (v := (31 : Int32)) hx hb d_Mdl_find_133 (by decide) ?_
                refine lv_icmp_ne (tgt := 164) hx hb d_Mdl_find_135 rfl (fun h25 => ?_) (fun h25 => ?_)
                ·
                  refine lv_iload_n hx hb d_Mdl_find_164 rfl (lv_at hl 1 rfl) ?_
                  refine lv_iconst (v := (1 : Int32)) hx hb d_Mdl_find_165 (by decide) ?_
                  refine lv_icmp_eq (tgt := 181) hx hb d_Mdl_find_166 rfl (fun h26 => ?_) (fun h26 => ?_)
                  ·
                    refine lv_aload_n hx hb d_Mdl_find_181 rfl (lv_at hl 0 rfl) ?_
                    refine lv_iload_n hx hb d_Mdl_find_182 rfl (lv_at hl 1 rfl) ?_
                    refine lv_iconst (v := (1 : Int32)) hx hb d_Mdl_find_183 (by decide) ?_
                    refine lv_icmp_ne (tgt := 194) hx hb d_Mdl_find_184 rfl (fun h => absurd h26 h) (fun _ => ?_)
                    refine lv_aload_n hx hb d_Mdl_find_187 rfl (lv_at hl 0 rfl) ?_
                    refine gt_Mdl X hP 2 (by decide) (v := .int (S.1 1)) q_565 rfl d_Mdl_find_188 ?_
                    refine lv_goto (tgt := 195) hx hb d_Mdl_find_191 rfl ?_
                    refine kv_s (rest := []) X hP hS (c_Mdl_direct l D cB cI a bz ha S (S.1 1)) (kw_Mdl_direct hts q_712 ⟨Nat.le_of_ble_eq_true rfl, Nat.le_of_ble_eq_true rfl⟩) 0 rfl rfl rfl hl.1 rfl (lv_room (Nat.le_of_ble_eq_true rfl)) d_Mdl_find_195 (fun S27 H locs e28 hP hS => ?_)
                    refine lv_aload_n hx hb d_Mdl_find_198 rfl (lv_at hl 0 rfl) ?_
                    refine lv_aload_n hx hb d_Mdl_find_199 rfl (lv_at hl 0 rfl) ?_
                    refine gt_Mdl X hP 6 (by decide) (v := .int (S27.1 5)) q_569 rfl d_Mdl_find_200 ?_
                    refine lv_bipush (v := (16 : Int32)) hx hb d_Mdl_find_203 (by decide) ?_
                    refine lv_ishl hx hb d_Mdl_find_205 ?_
                    refine lv_aload_n hx hb d_Mdl_find_206 rfl (lv_at hl 0 rfl) ?_
                    refine lv_aload_n hx hb d_Mdl_find_207 rfl (lv_at hl 0 rfl) ?_
                    refine gt_Mdl X hP 16 (by decide) (v := .int (S27.1 14)) q_579 rfl d_Mdl_find_208 ?_
                    refine lv_iconst (v := (1 : Int32)) hx hb d_Mdl_find_211 (by decide) ?_
                    refine kv_vs (rest := [.int (((S27.1 5) <<< ((16 : Int32) &&& 31))), .ref (a 0)]) X hP hS (c_Mdl_readWord l D cB cI a bz ha S27 (S27.1 14) (1 : Int32)) (kw_Mdl_readWord hts q_686 ⟨Nat.le_of_ble_eq_true rfl, Nat.le_of_ble_eq_true rfl⟩) 0 rfl rfl rfl hl.1 rfl (lv_room (Nat.le_of_ble_eq_true rfl)) d_Mdl_find_212 (fun r29 S30 H locs e31 hP hS => ?_)
                    refine lv_iadd hx hb d_Mdl_find_215 ?_
                    refine lv_iload_n hx hb d_Mdl_find_216 rfl (lv_at hl 1 rfl) ?_
                    refine lv_bipush (v := (17 : Int32)) hx hb d_Mdl_find_217 (by decide) ?_
                    refine lv_icmp_ne (tgt := 229) hx hb d_Mdl_find_219 rfl (fun _ => ?_) (fun h => absurd h (by rw [h26]; decide))
                    refine lv_iconst (v := (0 : Int32)) hx hb d_Mdl_find_229 (by decide) ?_
                    refine lv_iadd hx hb d_Mdl_find_230 ?_
                    refine kv_s (rest := []) X hP hS (c_Mdl_far l D cB cI a bz ha S30 ((((S27.1 5) <<< ((16 : Int32) &&& 31)) + r29) + (0 : Int32))) (kw_Mdl_far hts q_720 ⟨Nat.le_of_ble_eq_true rfl, Nat.le_of_ble_eq_true rfl⟩) 0 rfl rfl rfl hl.1 rfl (lv_room (Nat.le_of_ble_eq_true rfl)) d_Mdl_find_231 (fun S32 H locs e33 hP hS => ?_)
                    refine lv_goto (tgt := 359) hx hb d_Mdl_find_234 rfl ?_
                    refine lv_iconst (v := (1 : Int32)) hx hb d_Mdl_find_359 (by decide) ?_
                    exact rt_z X hr hk hP hS (by decide) (by rw [f_Mdl_find, if_neg h1, if_neg h4, if_neg h5, if_neg h6, if_neg h12, if_neg h18, if_neg h19, if_neg h25, if_pos h26, bs_eq e28, bn_eq e31, bs_eq e33]) d_Mdl_find_360
                  ·
                    refine lv_iload_n hx hb d_Mdl_find_169 rfl (lv_at hl 1 rfl) ?_
                    refine lv_bipush (v := (17 : Int32)) hx hb d_Mdl_find_170 (by decide) ?_
                    refine lv_icmp_eq (tgt := 181) hx hb d_Mdl_find_172 rfl (fun h34 => ?_) (fun h34 => ?_)
                    ·
                      refine lv_aload_n hx hb d_Mdl_find_181 rfl (lv_at hl 0 rfl) ?_
                      refine lv_iload_n hx hb d_Mdl_find_182 rfl (lv_at hl 1 rfl) ?_
                      refine lv_iconst (v := (1 : Int32)) hx hb d_Mdl_find_183 (by decide) ?_
                      refine lv_icmp_ne (tgt := 194) hx hb d_Mdl_find_184 rfl (fun _ => ?_) (fun h => absurd h h26)
                      refine lv_iconst (v := (0 : Int32)) hx hb d_Mdl_find_194 (by decide) ?_
                      refine kv_s (rest := []) X hP hS (c_Mdl_direct l D cB cI a bz ha S (0 : Int32)) (kw_Mdl_direct hts q_712 ⟨Nat.le_of_ble_eq_true rfl, Nat.le_of_ble_eq_true rfl⟩) 0 rfl rfl rfl hl.1 rfl (lv_room (Nat.le_of_ble_eq_true rfl)) d_Mdl_find_195 (fun S35 H locs e36 hP hS => ?_)
                      refine lv_aload_n hx hb d_Mdl_find_198 rfl (lv_at hl 0 rfl) ?_
                      refine lv_aload_n hx hb d_Mdl_find_199 rfl (lv_at hl 0 rfl) ?_
                      refine gt_Mdl X hP 6 (by decide) (v := .int (S35.1 5)) q_569 rfl d_Mdl_find_200 ?_
                      refine lv_bipush (v := (16 : Int32)) hx hb d_Mdl_find_203 (by decide) ?_
                      refine lv_ishl hx hb d_Mdl_find_205 ?_
                      refine lv_aload_n hx hb d_Mdl_find_206 rfl (lv_at hl 0 rfl) ?_
                      refine lv_aload_n hx hb d_Mdl_find_207 rfl (lv_at hl 0 rfl) ?_
                      refine gt_Mdl X hP 16 (by decide) (v := .int (S35.1 14)) q_579 rfl d_Mdl_find_208 ?_
                      refine lv_iconst (v := (1 : Int32)) hx hb d_Mdl_find_211 (by decide) ?_
                      refine kv_vs (rest := [.int (((S35.1 5) <<< ((16 : Int32) &&& 31))), .ref (a 0)]) X hP hS (c_Mdl_readWord l D cB cI a bz ha S35 (S35.1 14) (1 : Int32)) (kw_Mdl_readWord hts q_686 ⟨Nat.le_of_ble_eq_true rfl, Nat.le_of_ble_eq_true rfl⟩) 0 rfl rfl rfl hl.1 rfl (lv_room (Nat.le_of_ble_eq_true rfl)) d_Mdl_find_212 (fun r37 S38 H locs e39 hP hS => ?_)
                      refine lv_iadd hx hb d_Mdl_find_215 ?_
                      refine lv_iload_n hx hb d_Mdl_find_216 rfl (lv_at hl 1 rfl) ?_
                      refine lv_bipush (v := (17 : Int32)) hx hb d_Mdl_find_217 (by decide) ?_
                      refine lv_icmp_ne (tgt := 229) hx hb d_Mdl_find_219 rfl (fun h => absurd h34 h) (fun _ => ?_)
                      refine lv_aload_n hx hb d_Mdl_find_222 rfl (lv_at hl 0 rfl) ?_
                      refine gt_Mdl X hP 3 (by decide) (v := .int (S38.1 2)) q_566 rfl d_Mdl_find_223 ?_
                      refine lv_goto (tgt := 230) hx hb d_Mdl_find_226 rfl ?_
                      refine lv_iadd hx hb d_Mdl_find_230 ?_
                      refine kv_s (rest := []) X hP hS (c_Mdl_far l D cB cI a bz ha S38 ((((S35.1 5) <<< ((16 : Int32) &&& 31)) + r37) + (S38.1 2))) (kw_Mdl_far hts q_720 ⟨Nat.le_of_ble_eq_true rfl, Nat.le_of_ble_eq_true rfl⟩) 0 rfl rfl rfl hl.1 rfl (lv_room (Nat.le_of_ble_eq_true rfl)) d_Mdl_find_231 (fun S40 H locs e41 hP hS => ?_)
                      refine lv_goto (tgt := 359) hx hb d_Mdl_find_234 rfl ?_
                      refine lv_iconst (v := (1 : Int32)) hx hb d_Mdl_find_359 (by decide) ?_
                      exact rt_z X hr hk hP hS (by decide) (by rw [f_Mdl_find, if_neg h1, if_neg h4, if_neg h5, if_neg h6, if_neg h12, if_neg h18, if_neg h19, if_neg h25, if_neg h26, if_pos h34, bs_eq e36, bn_eq e39, bs_eq e41]) d_Mdl_find_360
                    ·
                      refine lv_iload_n hx hb d_Mdl_find_175 rfl (lv_at hl 1 rfl) ?_
                      refine lv_bipush (v := (18 : Int32)) hx hb d_Mdl_find_176 (by decide) ?_
                      refine lv_icmp_ne (tgt := 237) hx hb d_Mdl_find_178 rfl (fun h42 => ?_) (fun h42 => ?_)
                      ·
                        refine lv_iload_n hx hb d_Mdl_find_237 rfl (lv_at hl 1 rfl) ?_
                        refine lv_bipush (v := (7 : Int32)) hx hb d_Mdl_find_238 (by decide) ?_
                        refine lv_icmp_eq (tgt := 249) hx hb d_Mdl_find_240 rfl (fun h43 => ?_) (fun h43 => ?_)
                        ·
                          refine lv_aload_n hx hb d_Mdl_find_249 rfl (lv_at hl 0 rfl) ?_
                          refine lv_iconst (v := (0 : Int32)) hx hb d_Mdl_find_250 (by decide) ?_
                          refine kv_s (rest := []) X hP hS (c_Mdl_direct l D cB cI a bz ha S (0 : Int32)) (kw_Mdl_direct hts q_712 ⟨Nat.le_of_ble_eq_true rfl, Nat.le_of_ble_eq_true rfl⟩) 0 rfl rfl rfl hl.1 rfl (lv_room (Nat.le_of_ble_eq_true rfl)) d_Mdl_find_251 (fun S44 H locs e45 hP hS => ?_)
                          refine lv_aload_n hx hb d_Mdl_find_254 rfl (lv_at hl 0 rfl) ?_
                          refine lv_aload_n hx hb d_Mdl_find_255 rfl (lv_at hl 0 rfl) ?_
                          refine gt_Mdl X hP 16 (by decide) (v := .int (S44.1 14)) q_579 rfl d_Mdl_find_256 ?_
                          refine lv_iconst (v := (1 : Int32)) hx hb d_Mdl_find_259 (by decide) ?_
                          refine kv_vs (rest := []) X hP hS (c_Mdl_readWord l D cB cI a bz ha S44 (S44.1 14) (1 : Int32)) (kw_Mdl_readWord hts q_686 ⟨Nat.le_of_ble_eq_true rfl, Nat.le_of_ble_eq_true rfl⟩) 0 rfl rfl rfl hl.1 rfl (lv_room (Nat.le_of_ble_eq_true rfl)) d_Mdl_find_260 (fun r46 S47 H locs e48 hP hS => ?_)
                          refine lv_istore_n hx hb d_Mdl_find_263 rfl hl (Nat.le_of_ble_eq_true rfl) rfl (fun ls hl => ?_)
                          have hl : lv_has ls 4 [(2, .int (r46)), (0, .ref (a 0)), (1, .int (x1))] := hl
                          refine lv_aload_n hx hb d_Mdl_find_264 rfl (lv_at hl 1 rfl) ?_
                          refine lv_aload_n hx hb d_Mdl_find_265 rfl (lv_at hl 1 rfl) ?_
                          refine gt_Mdl X hP 16 (by decide) (v := .int (S47.1 14)) q_579 rfl d_Mdl_find_266 ?_
                          refine lv_iconst (v := (2 : Int32)) hx hb d_Mdl_find_269 (by decide) ?_
                          refine lv_iadd hx hb d_Mdl_find_270 ?_
                          refine lv_ldc (v := (65535 : Int32)) hx hb hown (hts _ q_630) d_Mdl_find_271 ?_
                          refine lv_iand hx hb d_Mdl_find_273 ?_
                          refine kv_vs (rest := []) X hP hS (c_Mdl_read l D cB cI a bz ha S47 (((S47.1 14) + (2 : Int32)) &&& (65535 : Int32))) (kw_Mdl_read hts q_690 ⟨Nat.le_of_ble_eq_true rfl, Nat.le_of_ble_eq_true rfl⟩) 0 rfl rfl rfl hl.1 rfl (lv_room (Nat.le_of_ble_eq_true rfl)) d_Mdl_find_274 (fun r49 S50 H locs e51 hP hS => ?_)
                          refine lv_istore_n hx hb d_Mdl_find_277 rfl hl (Nat.le_of_ble_eq_true rfl) rfl (fun ls hl => ?_)
                          have hl : lv_has ls 4 [(3, .int (r49)), (2, .int (r46)), (0, .ref (a 0)), (1, .int (x1))] := hl
                          refine lv_aload_n hx hb d_Mdl_find_278 rfl (lv_at hl 2 rfl) ?_
                          refine lv_iload_n hx hb d_Mdl_find_279 rfl (lv_at hl 0 rfl) ?_
                          refine lv_bipush (v := (16 : Int32)) hx hb d_Mdl_find_280 (by decide) ?_
                          refine lv_ishl hx hb d_Mdl_find_282 ?_
                          refine lv_iload_n hx hb d_Mdl_find_283 rfl (lv_at hl 1 rfl) ?_
                          refine lv_iadd hx hb d_Mdl_find_284 ?_
                          refine lv_iload_n hx hb d_Mdl_find_285 rfl (lv_at hl 3 rfl) ?_
                          refine lv_bipush (v := (23 : Int32)) hx hb d_Mdl_find_286 (by decide) ?_
                          refine lv_icmp_ne (tgt := 298) hx hb d_Mdl_find_288 rfl (fun _ => ?_) (fun h => absurd h (by rw [h43]; decide))
                          refine lv_iconst (v := (0 : Int32)) hx hb d_Mdl_find_298 (by decide) ?_
                          refine lv_iadd hx hb d_Mdl_find_299 ?_
                          refine kv_s (rest := []) X hP hS (c_Mdl_far l D cB cI a bz ha S50 (((r49 <<< ((16 : Int32) &&& 31)) + r46) + (0 : Int32))) (kw_Mdl_far hts q_720 ⟨Nat.le_of_ble_eq_true rfl, Nat.le_of_ble_eq_true rfl⟩) 0 rfl rfl rfl hl.1 rfl (lv_room (Nat.le_of_ble_eq_true rfl)) d_Mdl_find_300 (fun S52 H locs e53 hP hS => ?_)
                          refine lv_goto (tgt := 359) hx hb d_Mdl_find_303 rfl ?_
                          refine lv_iconst (v := (1 : Int32)) hx hb d_Mdl_find_359 (by decide) ?_
                          exact rt_z X hr hk hP hS (by decide) (by rw [f_Mdl_find, if_neg h1, if_neg h4, if_neg h5, if_neg h6, if_neg h12, if_neg h18, if_neg h19, if_neg h25, if_neg h26, if_neg h34, if_neg h42, if_pos h43, bs_eq e45, bn_eq e48, bn_eq e51, bs_eq e53]) d_Mdl_find_360
                        ·
                          refine lv_iload_n hx hb d_Mdl_find_243 rfl (lv_at hl 1 rfl) ?_
                          refine lv_bipush (v := (23 : Int32)) hx hb d_Mdl_find_244 (by decide) ?_
                          refine lv_icmp_ne (tgt := 306) hx hb d_Mdl_find_246 rfl (fun h54 => ?_) (fun h54 => ?_)
                          ·
                            refine lv_iload_n hx hb d_Mdl_find_306 rfl (lv_at hl 1 rfl) ?_
                            refine lv_bipush (v := (19 : Int32)) hx hb d_Mdl_find_307 (by decide) ?_
                            refine lv_icmp_ne (tgt := 357) hx hb d_Mdl_find_309 rfl (fun h55 => ?_) (fun h55 => ?_)
                            ·
                              refine lv_iconst (v := (0 : Int32)) hx hb d_Mdl_find_357 (by decide) ?_
                              exact rt_z X hr hk hP hS (by decide) (by rw [f_Mdl_find, if_neg h1, if_neg h4, if_neg h5, if_neg h6, if_neg h12, if_neg h18, if_neg h19, if_neg h25, if_neg h26, if_neg h34, if_neg h42, if_neg h43, if_neg h54, if_neg h55]) d_Mdl_find_358
                            ·
                              refine lv_aload_n hx hb d_Mdl_find_312 rfl (lv_at hl 0 rfl) ?_
                              refine lv_aload_n hx hb d_Mdl_find_313 rfl (lv_at hl 0 rfl) ?_
                              refine gt_Mdl X hP 4 (by decide) (v := .int (S.1 3)) q_567 rfl d_Mdl_find_314 ?_
                              refine lv_aload_n hx hb d_Mdl_find_317 rfl (lv_at hl 0 rfl) ?_
                              refine kv_vs (rest := [.int (S.1 3), .ref (a 0)]) X hP hS (c_Mdl_next l D cB cI a bz ha S) (kw_Mdl_next hts q_700 ⟨Nat.le_of_ble_eq_true rfl, Nat.le_of_ble_eq_true rfl⟩) 0 rfl rfl rfl hl.1 rfl (lv_room (Nat.le_of_ble_eq_true rfl)) d_Mdl_find_318 (fun r56 S57 H locs e58 hP hS => ?_)
                              refine lv_iadd hx hb d_Mdl_find_321 ?_
                              refine lv_ldc (v := (65535 : Int32)) hx hb hown (hts _ q_630) d_Mdl_find_322 ?_
                              refine lv_iand hx hb d_Mdl_find_324 ?_
                              refine pt_Mdl X hP hS 16 (by decide) (v := (((S.1 3) + r56) &&& (65535 : Int32))) (S1 := (pr S57 14 ((((S.1 3) + r56) &&& (65535 : Int32))))) q_579 rfl rfl rfl rfl d_Mdl_find_325 (fun H locs hP hS => ?_)
                              refine lv_aload_n hx hb d_Mdl_find_328 rfl (lv_at hl 0 rfl) ?_
                              refine lv_aload_n hx hb d_Mdl_find_329 rfl (lv_at hl 0 rfl) ?_
                              refine gt_Mdl X hP 6 (by decide) (v := .int (S57.1 5)) q_569 rfl d_Mdl_find_330 ?_
                              refine lv_bipush (v := (16 : Int32)) hx hb d_Mdl_find_333 (by decide) ?_
                              refine lv_ishl hx hb d_Mdl_find_335 ?_
                              refine lv_aload_n hx hb d_Mdl_find_336 rfl (lv_at hl 0 rfl) ?_
                              refine lv_aload_n hx hb d_Mdl_find_337 rfl (lv_at hl 0 rfl) ?_
                              refine gt_Mdl X hP 16 (by decide) (v := .int ((((S.1 3) + r56) &&& (65535 : Int32)))) q_579 rfl d_Mdl_find_338 ?_
                              refine lv_iconst (v := (1 : Int32)) hx hb d_Mdl_find_341 (by decide) ?_
                              refine kv_vs (rest := [.int (((S57.1 5) <<< ((16 : Int32) &&& 31))), .ref (a 0)]) X hP hS (c_Mdl_readWord l D cB cI a bz ha (pr S57 14 ((((S.1 3) + r56) &&& (65535 : Int32)))) (((S.1 3) + r56) &&& (65535 : Int32)) (1 : Int32)) (kw_Mdl_readWord hts q_686 ⟨Nat.le_of_ble_eq_true rfl, Nat.le_of_ble_eq_true rfl⟩) 0 rfl rfl rfl hl.1 rfl (lv_room (Nat.le_of_ble_eq_true rfl)) d_Mdl_find_342 (fun r59 S60 H locs e61 hP hS => ?_)
                              refine lv_iadd hx hb d_Mdl_find_345 ?_
                              refine lv_aload_n hx hb d_Mdl_find_346 rfl (lv_at hl 0 rfl) ?_
                              refine gt_Mdl X hP 3 (by decide) (v := .int (S60.1 2)) q_566 rfl d_Mdl_find_347 ?_
                              refine lv_iadd hx hb d_Mdl_find_350 ?_
                              refine kv_s (rest := []) X hP hS (c_Mdl_far l D cB cI a bz ha S60 ((((S57.1 5) <<< ((16 : Int32) &&& 31)) + r59) + (S60.1 2))) (kw_Mdl_far hts q_720 ⟨Nat.le_of_ble_eq_true rfl, Nat.le_of_ble_eq_true rfl⟩) 0 rfl rfl rfl hl.1 rfl (lv_room (Nat.le_of_ble_eq_true rfl)) d_Mdl_find_351 (fun S62 H locs e63 hP hS => ?_)
                              refine lv_goto (tgt := 359) hx hb d_Mdl_find_354 rfl ?_
                              refine lv_iconst (v := (1 : Int32)) hx hb d_Mdl_find_359 (by decide) ?_
                              exact rt_z X hr hk hP hS (by decide) (by rw [f_Mdl_find, if_neg h1, if_neg h4, if_neg h5, if_neg h6, if_neg h12, if_neg h18, if_neg h19, if_neg h25, if_neg h26, if_neg h34, if_neg h42, if_neg h43, if_neg h54, if_pos h55, bn_eq e58, bn_eq e61, bs_eq e63]) d_Mdl_find_360
                          ·
                            refine lv_aload_n hx hb d_Mdl_find_249 rfl (lv_at hl 0 rfl) ?_
                            refine lv_iconst (v := (0 : Int32)) hx hb d_Mdl_find_250 (by decide) ?_
                            refine kv_s (rest := []) X hP hS (c_Mdl_direct l D cB cI a bz ha S (0 : Int32)) (kw_Mdl_direct hts q_712 ⟨Nat.le_of_ble_eq_true rfl, Nat.le_of_ble_eq_true rfl⟩) 0 rfl rfl rfl hl.1 rfl (lv_room (Nat.le_of_ble_eq_true rfl)) d_Mdl_find_251 (fun S64 H locs e65 hP hS => ?_)
                            refine lv_aload_n hx hb d_Mdl_find_254 rfl (lv_at hl 0 rfl) ?_
                            refine lv_aload_n hx hb d_Mdl_find_255 rfl (lv_at hl 0 rfl) ?_
                            refine gt_Mdl X hP 16 (by decide) (v := .int (S64.1 14)) q_579 rfl d_Mdl_find_256 ?_
                            refine lv_iconst (v := (1 : Int32)) hx hb d_Mdl_find_259 (by decide) ?_
                            refine kv_vs (rest := []) X hP hS (c_Mdl_readWord l D cB cI a bz ha S64 (S64.1 14) (1 : Int32)) (kw_Mdl_readWord hts q_686 ⟨Nat.le_of_ble_eq_true rfl, Nat.le_of_ble_eq_true rfl⟩) 0 rfl rfl rfl hl.1 rfl (lv_room (Nat.le_of_ble_eq_true rfl)) d_Mdl_find_260 (fun r66 S67 H locs e68 hP hS => ?_)
                            refine lv_istore_n hx hb d_Mdl_find_263 rfl hl (Nat.le_of_ble_eq_true rfl) rfl (fun ls hl => ?_)
                            have hl : lv_has ls 4 [(2, .int (r66)), (0, .ref (a 0)), (1, .int (x1))] := hl
                            refine lv_aload_n hx hb d_Mdl_find_264 rfl (lv_at hl 1 rfl) ?_
                            refine lv_aload_n hx hb d_Mdl_find_265 rfl (lv_at hl 1 rfl) ?_
                            refine gt_Mdl X hP 16 (by decide) (v := .int (S67.1 14)) q_579 rfl d_Mdl_find_266 ?_
                            refine lv_iconst (v := (2 : Int32)) hx hb d_Mdl_find_269 (by decide) ?_
                            refine lv_iadd hx hb d_Mdl_find_270 ?_
                            refine lv_ldc (v := (65535 : Int32)) hx hb hown (hts _ q_630) d_Mdl_find_271 ?_
                            refine lv_iand hx hb d_Mdl_find_273 ?_
                            refine kv_vs (rest := []) X hP hS (c_Mdl_read l D cB cI a bz ha S67 (((S67.1 14) + (2 : Int32)) &&& (65535 : Int32))) (kw_Mdl_read hts q_690 ⟨Nat.le_of_ble_eq_true rfl, Nat.le_of_ble_eq_true rfl⟩) 0 rfl rfl rfl hl.1 rfl (lv_room (Nat.le_of_ble_eq_true rfl)) d_Mdl_find_274 (fun r69 S70 H locs e71 hP hS => ?_)
                            refine lv_istore_n hx hb d_Mdl_find_277 rfl hl (Nat.le_of_ble_eq_true rfl) rfl (fun ls hl => ?_)
                            have hl : lv_has ls 4 [(3, .int (r69)), (2, .int (r66)), (0, .ref (a 0)), (1, .int (x1))] := hl
                            refine lv_aload_n hx hb d_Mdl_find_278 rfl (lv_at hl 2 rfl) ?_
                            refine lv_iload_n hx hb d_Mdl_find_279 rfl (lv_at hl 0 rfl) ?_
                            refine lv_bipush (v := (16 : Int32)) hx hb d_Mdl_find_280 (by decide) ?_
                            refine lv_ishl hx hb d_Mdl_find_282 ?_
                            refine lv_iload_n hx hb d_Mdl_find_283 rfl (lv_at hl 1 rfl) ?_
                            refine lv_iadd hx hb d_Mdl_find_284 ?_
                            refine lv_iload_n hx hb d_Mdl_find_285 rfl (lv_at hl 3 rfl) ?_
                            refine lv_bipush (v := (23 : Int32)) hx hb d_Mdl_find_286 (by decide) ?_
                            refine lv_icmp_ne (tgt := 298) hx hb d_Mdl_find_288 rfl (fun h => absurd h54 h) (fun _ => ?_)
                            refine lv_aload_n hx hb d_Mdl_find_291 rfl (lv_at hl 2 rfl) ?_
                            refine gt_Mdl X hP 3 (by decide) (v := .int (S70.1 2)) q_566 rfl d_Mdl_find_292 ?_
                            refine lv_goto (tgt := 299) hx hb d_Mdl_find_295 rfl ?_
                            refine lv_iadd hx hb d_Mdl_find_299 ?_
                            refine kv_s (rest := []) X hP hS (c_Mdl_far l D cB cI a bz ha S70 (((r69 <<< ((16 : Int32) &&& 31)) + r66) + (S70.1 2))) (kw_Mdl_far hts q_720 ⟨Nat.le_of_ble_eq_true rfl, Nat.le_of_ble_eq_true rfl⟩) 0 rfl rfl rfl hl.1 rfl (lv_room (Nat.le_of_ble_eq_true rfl)) d_Mdl_find_300 (fun S72 H locs e73 hP hS => ?_)
                            refine lv_goto (tgt := 359) hx hb d_Mdl_find_303 rfl ?_
                            refine lv_iconst (v := (1 : Int32)) hx hb d_Mdl_find_359 (by decide) ?_
                            exact rt_z X hr hk hP hS (by decide) (by rw [f_Mdl_find, if_neg h1, if_neg h4, if_neg h5, if_neg h6, if_neg h12, if_neg h18, if_neg h19, if_neg h25, if_neg h26, if_neg h34, if_neg h42, if_neg h43, if_pos h54, bs_eq e65, bn_eq e68, bn_eq e71, bs_eq e73]) d_Mdl_find_360
                      ·
                        refine lv_aload_n hx hb d_Mdl_find_181 rfl (lv_at hl 0 rfl) ?_
                        refine lv_iload_n hx hb d_Mdl_find_182 rfl (lv_at hl 1 rfl) ?_
                        refine lv_iconst (v := (1 : Int32)) hx hb d_Mdl_find_183 (by decide) ?_
                        refine lv_icmp_ne (tgt := 194) hx hb d_Mdl_find_184 rfl (fun _ => ?_) (fun h => absurd h h26)
                        refine lv_iconst (v := (0 : Int32)) hx hb d_Mdl_find_194 (by decide) ?_
                        refine kv_s (rest := []) X hP hS (c_Mdl_direct l D cB cI a bz ha S (0 : Int32)) (kw_Mdl_direct hts q_712 ⟨Nat.le_of_ble_eq_true rfl, Nat.le_of_ble_eq_true rfl⟩) 0 rfl rfl rfl hl.1 rfl (lv_room (Nat.le_of_ble_eq_true rfl)) d_Mdl_find_195 (fun S74 H locs e75 hP hS => ?_)
                        refine lv_aload_n hx hb d_Mdl_find_198 rfl (lv_at hl 0 rfl) ?_
                        refine lv_aload_n hx hb d_Mdl_find_199 rfl (lv_at hl 0 rfl) ?_
                        refine gt_Mdl X hP 6 (by decide) (v := .int (S74.1 5)) q_569 rfl d_Mdl_find_200 ?_
                        refine lv_bipush (v := (16 : Int32)) hx hb d_Mdl_find_203 (by decide) ?_
                        refine lv_ishl hx hb d_Mdl_find_205 ?_
                        refine lv_aload_n hx hb d_Mdl_find_206 rfl (lv_at hl 0 rfl) ?_
                        refine lv_aload_n hx hb d_Mdl_find_207 rfl (lv_at hl 0 rfl) ?_
                        refine gt_Mdl X hP 16 (by decide) (v := .int (S74.1 14)) q_579 rfl d_Mdl_find_208 ?_
                        refine lv_iconst (v := (1 : Int32)) hx hb d_Mdl_find_211 (by decide) ?_
                        refine kv_vs (rest := [.int (((S74.1 5) <<< ((16 : Int32) &&& 31))), .ref (a 0)]) X hP hS (c_Mdl_readWord l D cB cI a bz ha S74 (S74.1 14) (1 : Int32)) (kw_Mdl_readWord hts q_686 ⟨Nat.le_of_ble_eq_true rfl, Nat.le_of_ble_eq_true rfl⟩) 0 rfl rfl rfl hl.1 rfl (lv_room (Nat.le_of_ble_eq_true rfl)) d_Mdl_find_212 (fun r76 S77 H locs e78 hP hS => ?_)
                        refine lv_iadd hx hb d_Mdl_find_215 ?_
                        refine lv_iload_n hx hb d_Mdl_find_216 rfl (lv_at hl 1 rfl) ?_
                        refine lv_bipush (v := (17 : Int32)) hx hb d_Mdl_find_217 (by decide) ?_
                        refine lv_icmp_ne (tgt := 229) hx hb d_Mdl_find_219 rfl (fun _ => ?_) (fun h => absurd h h34)
                        refine lv_iconst (v := (0 : Int32)) hx hb d_Mdl_find_229 (by decide) ?_
                        refine lv_iadd hx hb d_Mdl_find_230 ?_
                        refine kv_s (rest := []) X hP hS (c_Mdl_far l D cB cI a bz ha S77 ((((S74.1 5) <<< ((16 : Int32) &&& 31)) + r76) + (0 : Int32))) (kw_Mdl_far hts q_720 ⟨Nat.le_of_ble_eq_true rfl, Nat.le_of_ble_eq_true rfl⟩) 0 rfl rfl rfl hl.1 rfl (lv_room (Nat.le_of_ble_eq_true rfl)) d_Mdl_find_231 (fun S79 H locs e80 hP hS => ?_)
                        refine lv_goto (tgt := 359) hx hb d_Mdl_find_234 rfl ?_
                        refine lv_iconst (v := (1 : Int32)) hx hb d_Mdl_find_359 (by decide) ?_
                        exact rt_z X hr hk hP hS (by decide) (by rw [f_Mdl_find, if_neg h1, if_neg h4, if_neg h5, if_neg h6, if_neg h12, if_neg h18, if_neg h19, if_neg h25, if_neg h26, if_neg h34, if_pos h42, bs_eq e75, bn_eq e78, bs_eq e80]) d_Mdl_find_360
                ·
                  refine lv_aload_n hx hb d_Mdl_find_138 rfl (lv_at hl 0 rfl) ?_
                  refine lv_aload_n hx hb d_Mdl_find_139 rfl (lv_at hl 0 rfl) ?_
                  refine kv_vs (rest := [.ref (a 0)]) X hP hS (c_Mdl_nextLong l D cB cI a bz ha S) (kw_Mdl_nextLong hts q_724 ⟨Nat.le_of_ble_eq_true rfl, Nat.le_of_ble_eq_true rfl⟩) 0 rfl rfl rfl hl.1 rfl (lv_room (Nat.le_of_ble_eq_true rfl)) d_Mdl_find_140 (fun r81 S82 H locs e83 hP hS => ?_)
                  refine lv_iload_n hx hb d_Mdl_find_143 rfl (lv_at hl 1 rfl) ?_
                  refine lv_bipush (v := (31 : Int32)) hx hb d_Mdl_find_144 (by decide) ?_
                  refine lv_icmp_ne (tgt := 156) hx hb d_Mdl_find_146 rfl (fun h => absurd h25 h) (fun _ => ?_)
                  refine lv_aload_n hx hb d_Mdl_find_149 rfl (lv_at hl 0 rfl) ?_
                  refine gt_Mdl X hP 2 (by decide) (v := .int (S82.1 1)) q_565 rfl d_Mdl_find_150 ?_
                  refine lv_goto (tgt := 157) hx hb d_Mdl_find_153 rfl ?_
                  refine lv_iadd hx hb d_Mdl_find_157 ?_
                  refine kv_s (rest := []) X hP hS (c_Mdl_far l D cB cI a bz ha S82 (r81 + (S82.1 1))) (kw_Mdl_far hts q_720 ⟨Nat.le_of_ble_eq_true rfl, Nat.le_of_ble_eq_true rfl⟩) 0 rfl rfl rfl hl.1 rfl (lv_room (Nat.le_of_ble_eq_true rfl)) d_Mdl_find_158 (fun S84 H locs e85 hP hS => ?_)
                  refine lv_goto (tgt := 359) hx hb d_Mdl_find_161 rfl ?_
                  refine lv_iconst (v := (1 : Int32)) hx hb d_Mdl_find_359 (by decide) ?_
                  exact rt_z X hr hk hP hS (by decide) (by rw [f_Mdl_find, if_neg h1, if_neg h4, if_neg h5, if_neg h6, if_neg h12, if_neg h18, if_neg h19, if_pos h25, bn_eq e83, bs_eq e85]) d_Mdl_find_360
            ·
              refine lv_aload_n hx hb d_Mdl_find_79 rfl (lv_at hl 0 rfl) ?_
              refine lv_aload_n hx hb d_Mdl_find_80 rfl (lv_at hl 0 rfl) ?_
              refine gt_Mdl X hP 6 (by decide) (v := .int (S.1 5)) q_569 rfl d_Mdl_find_81 ?_
              refine lv_bipush (v := (16 : Int32)) hx hb d_Mdl_find_84 (by decide) ?_
              refine lv_ishl hx hb d_Mdl_find_86 ?_
              refine lv_aload_n hx hb d_Mdl_find_87 rfl (lv_at hl 0 rfl) ?_
              refine kv_vs (rest := [.int (((S.1 5) <<< ((16 : Int32) &&& 31))), .ref (a 0)]) X hP hS (c_Mdl_nextWord l D cB cI a bz ha S) (kw_Mdl_nextWord hts q_716 ⟨Nat.le_of_ble_eq_true rfl, Nat.le_of_ble_eq_true rfl⟩) 0 rfl rfl rfl hl.1 rfl (lv_room (Nat.le_of_ble_eq_true rfl)) d_Mdl_find_88 (fun r86 S87 H locs e88 hP hS => ?_)
              refine lv_iadd hx hb d_Mdl_find_91 ?_
              refine lv_iload_n hx hb d_Mdl_find_92 rfl (lv_at hl 1 rfl) ?_
              refine lv_bipush (v := (25 : Int32)) hx hb d_Mdl_find_93 (by decide) ?_
              refine lv_icmp_ne (tgt := 105) hx hb d_Mdl_find_95 rfl (fun _ => ?_) (fun h => absurd h h12)
              refine lv_iload_n hx hb d_Mdl_find_105 rfl (lv_at hl 1 rfl) ?_
              refine lv_bipush (v := (29 : Int32)) hx hb d_Mdl_find_106 (by decide) ?_
              refine lv_icmp_ne (tgt := 118) hx hb d_Mdl_find_108 rfl (fun h => absurd h18 h) (fun _ => ?_)
              refine lv_aload_n hx hb d_Mdl_find_111 rfl (lv_at hl 0 rfl) ?_
              refine gt_Mdl X hP 2 (by decide) (v := .int (S87.1 1)) q_565 rfl d_Mdl_find_112 ?_
              refine lv_goto (tgt := 119) hx hb d_Mdl_find_115 rfl ?_
              refine lv_iadd hx hb d_Mdl_find_119 ?_
              refine kv_s (rest := []) X hP hS (c_Mdl_far l D cB cI a bz ha S87 ((((S.1 5) <<< ((16 : Int32) &&& 31)) + r86) + (S87.1 1))) (kw_Mdl_far hts q_720 ⟨Nat.le_of_ble_eq_true rfl, Nat.le_of_ble_eq_true rfl⟩) 0 rfl rfl rfl hl.1 rfl (lv_room (Nat.le_of_ble_eq_true rfl)) d_Mdl_find_120 (fun S89 H locs e90 hP hS => ?_)
              refine lv_goto (tgt := 359) hx hb d_Mdl_find_123 rfl ?_
              refine lv_iconst (v := (1 : Int32)) hx hb d_Mdl_find_359 (by decide) ?_
              exact rt_z X hr hk hP hS (by decide) (by rw [f_Mdl_find, if_neg h1, if_neg h4, if_neg h5, if_neg h6, if_neg h12, if_pos h18, bn_eq e88, bs_eq e90]) d_Mdl_find_360
      ·
        refine lv_aload_n hx hb d_Mdl_find_37 rfl (lv_at hl 0 rfl) ?_
        refine lv_aload_n hx hb d_Mdl_find_38 rfl (lv_at hl 0 rfl) ?_
        refine gt_Mdl X hP 4 (by decide) (v := .int (S.1 3)) q_567 rfl d_Mdl_find_39 ?_
        refine lv_aload_n hx hb d_Mdl_find_42 rfl (lv_at hl 0 rfl) ?_
        refine kv_vs (rest := [.int (S.1 3), .ref (a 0)]) X hP hS (c_Mdl_next l D cB cI a bz ha S) (kw_Mdl_next hts q_700 ⟨Nat.le_of_ble_eq_true rfl, Nat.le_of_ble_eq_true rfl⟩) 0 rfl rfl rfl hl.1 rfl (lv_room (Nat.le_of_ble_eq_true rfl)) d_Mdl_find_43 (fun r91 S92 H locs e93 hP hS => ?_)
        refine lv_iadd hx hb d_Mdl_find_46 ?_
        refine lv_ldc (v := (65535 : Int32)) hx hb hown (hts _ q_630) d_Mdl_find_47 ?_
        refine lv_iand hx hb d_Mdl_find_49 ?_
        refine pt_Mdl X hP hS 16 (by decide) (v := (((S.1 3) + r91) &&& (65535 : Int32))) (S1 := (pr S92 14 ((((S.1 3) + r91) &&& (65535 : Int32))))) q_579 rfl rfl rfl rfl d_Mdl_find_50 (fun H locs hP hS => ?_)
        refine lv_aload_n hx hb d_Mdl_find_53 rfl (lv_at hl 0 rfl) ?_
        refine lv_iconst (v := (1 : Int32)) hx hb d_Mdl_find_54 (by decide) ?_
        refine pt_Mdl X hP hS 17 (by decide) (v := (1 : Int32)) (S1 := (pr (pr S92 14 ((((S.1 3) + r91) &&& (65535 : Int32)))) 15 ((1 : Int32)))) q_580 rfl (by decide) rfl rfl d_Mdl_find_55 (fun H locs hP hS => ?_)
        refine lv_goto (tgt := 359) hx hb d_Mdl_find_58 rfl ?_
        refine lv_iconst (v := (1 : Int32)) hx hb d_Mdl_find_359 (by decide) ?_
        exact rt_z X hr hk hP hS (by decide) (by rw [f_Mdl_find, if_neg h1, if_neg h4, if_pos h5, bn_eq e93]) d_Mdl_find_360
    ·
      refine lv_aload_n hx hb d_Mdl_find_11 rfl (lv_at hl 0 rfl) ?_
      refine lv_iload_n hx hb d_Mdl_find_12 rfl (lv_at hl 1 rfl) ?_
      refine lv_bipush (v := (21 : Int32)) hx hb d_Mdl_find_13 (by decide) ?_
      refine lv_icmp_ne (tgt := 25) hx hb d_Mdl_find_15 rfl (fun h => absurd h4 h) (fun _ => ?_)
      refine lv_aload_n hx hb d_Mdl_find_18 rfl (lv_at hl 0 rfl) ?_
      refine gt_Mdl X hP 2 (by decide) (v := .int (S.1 1)) q_565 rfl d_Mdl_find_19 ?_
      refine lv_goto (tgt := 26) hx hb d_Mdl_find_22 rfl ?_
      refine kv_s (rest := []) X hP hS (c_Mdl_direct l D cB cI a bz ha S (S.1 1)) (kw_Mdl_direct hts q_712 ⟨Nat.le_of_ble_eq_true rfl, Nat.le_of_ble_eq_true rfl⟩) 0 rfl rfl rfl hl.1 rfl (lv_room (Nat.le_of_ble_eq_true rfl)) d_Mdl_find_26 (fun S94 H locs e95 hP hS => ?_)
      refine lv_goto (tgt := 359) hx hb d_Mdl_find_29 rfl ?_
      refine lv_iconst (v := (1 : Int32)) hx hb d_Mdl_find_359 (by decide) ?_
      exact rt_z X hr hk hP hS (by decide) (by rw [f_Mdl_find, if_neg h1, if_pos h4, bs_eq e95]) d_Mdl_find_360
set_option maxHeartbeats 4000000 in
set_option maxRecDepth 100000 in
theorem c_Mdl_add (l : Launch) (D : va_G) (cB cI : ClassId) (a : Nat → Nat) (bz : Nat) (ha : ap a 3) (S : Sc) (x1 : Int32) : MV l y_Mdl_add b_Mdl_add 6 rm_Mdl_add [.ref (a 0), .int x1] D cB cI (wdT cI a) (ow a 3) bz S (f_Mdl_add S x1) := by
  refine met_in R_Mdl (by decide) rfl (Nat.le_of_ble_eq_true rfl) (wdT_D ha cI) ?_
  intro p e s m below meth c ls X hr hk hl hP hS
  have hx := X.1.1
  have hb := X.1.2.1
  have hown := X.1.2.2.2.1
  have hts := X.1.2.2.2.2
  have hl : lv_has ls 6 [(0, .ref (a 0)), (1, .int x1)] := hl
  refine lv_aload_n hx hb d_Mdl_add_0 rfl (lv_at hl 0 rfl) ?_
  refine lv_bipush (v := (32 : Int32)) hx hb d_Mdl_add_1 (by decide) ?_
  refine kv_v (rest := []) X hP hS (c_Mdl_is l D cB cI a bz ha S (32 : Int32)) (kw_Mdl_is hts q_635 ⟨Nat.le_of_ble_eq_true rfl, Nat.le_of_ble_eq_true rfl⟩) 0 rfl rfl rfl hl.1 rfl (lv_room (Nat.le_of_ble_eq_true rfl)) d_Mdl_add_3 (fun H locs hP hS => ?_)
  refine lv_istore_n hx hb d_Mdl_add_6 rfl hl (Nat.le_of_ble_eq_true rfl) rfl (fun ls hl => ?_)
  have hl : lv_has ls 6 [(2, .int ((f_Mdl_is S (32 : Int32)))), (0, .ref (a 0)), (1, .int (x1))] := hl
  refine lv_aload_n hx hb d_Mdl_add_7 rfl (lv_at hl 1 rfl) ?_
  refine kv_v (rest := []) X hP hS (c_Mdl_accumulator l D cB cI a bz ha S) (kw_Mdl_accumulator hts q_728 ⟨Nat.le_of_ble_eq_true rfl, Nat.le_of_ble_eq_true rfl⟩) 0 rfl rfl rfl hl.1 rfl (lv_room (Nat.le_of_ble_eq_true rfl)) d_Mdl_add_8 (fun H locs hP hS => ?_)
  refine lv_istore_n hx hb d_Mdl_add_11 rfl hl (Nat.le_of_ble_eq_true rfl) rfl (fun ls hl => ?_)
  have hl : lv_has ls 6 [(3, .int ((f_Mdl_accumulator S))), (2, .int ((f_Mdl_is S (32 : Int32)))), (0, .ref (a 0)), (1, .int (x1))] := hl
  refine lv_iload_n hx hb d_Mdl_add_12 rfl (lv_at hl 0 rfl) ?_
  refine lv_iload_n hx hb d_Mdl_add_13 rfl (lv_at hl 3 rfl) ?_
  refine lv_iadd hx hb d_Mdl_add_14 ?_
  refine lv_aload_n hx hb d_Mdl_add_15 rfl (lv_at hl 2 rfl) ?_
  refine lv_iconst (v := (1 : Int32)) hx hb d_Mdl_add_16 (by decide) ?_
  refine kv_v (rest := [.int (((f_Mdl_accumulator S) + x1))]) X hP hS (c_Mdl_is l D cB cI a bz ha S (1 : Int32)) (kw_Mdl_is hts q_635 ⟨Nat.le_of_ble_eq_true rfl, Nat.le_of_ble_eq_true rfl⟩) 0 rfl rfl rfl hl.1 rfl (lv_room (Nat.le_of_ble_eq_true rfl)) d_Mdl_add_17 (fun H locs hP hS => ?_)
  refine lv_if_eq (tgt := 27) hx hb d_Mdl_add_20 rfl (fun h1 => ?_) (fun h1 => ?_)
  ·
    refine lv_iconst (v := (0 : Int32)) hx hb d_Mdl_add_27 (by decide) ?_
    refine lv_iadd hx hb d_Mdl_add_28 ?_
    refine lv_istore hx hb d_Mdl_add_29 hl (Nat.le_of_ble_eq_true rfl) rfl (fun ls hl => ?_)
    have hl : lv_has ls 6 [(4, .int ((((f_Mdl_accumulator S) + x1) + (0 : Int32)))), (3, .int ((f_Mdl_accumulator S))), (2, .int ((f_Mdl_is S (32 : Int32)))), (0, .ref (a 0)), (1, .int (x1))] := hl
    refine lv_iload_n hx hb d_Mdl_add_31 rfl (lv_at hl 2 rfl) ?_
    refine lv_if_eq (tgt := 41) hx hb d_Mdl_add_32 rfl (fun h2 => ?_) (fun h2 => ?_)
    ·
      refine lv_ldc (v := (32768 : Int32)) hx hb hown (hts _ q_748) d_Mdl_add_41 ?_
      refine lv_istore hx hb d_Mdl_add_43 hl (Nat.le_of_ble_eq_true rfl) rfl (fun ls hl => ?_)
      have hl : lv_has ls 6 [(5, .int ((32768 : Int32))), (4, .int ((((f_Mdl_accumulator S) + x1) + (0 : Int32)))), (3, .int ((f_Mdl_accumulator S))), (2, .int ((f_Mdl_is S (32 : Int32)))), (0, .ref (a 0)), (1, .int (x1))] := hl
      refine lv_aload_n hx hb d_Mdl_add_45 rfl (lv_at hl 4 rfl) ?_
      refine lv_iconst (v := (1 : Int32)) hx hb d_Mdl_add_46 (by decide) ?_
      refine lv_iload hx hb d_Mdl_add_47 (lv_at hl 1 rfl) ?_
      refine lv_iload_n hx hb d_Mdl_add_49 rfl (lv_at hl 3 rfl) ?_
      refine lv_if_eq (tgt := 59) hx hb d_Mdl_add_50 rfl (fun _ => ?_) (fun h => absurd h2 h)
      refine lv_ldc (v := (65535 : Int32)) hx hb hown (hts _ q_630) d_Mdl_add_59 ?_
      refine lv_icmp_le (tgt := 68) hx hb d_Mdl_add_61 rfl (fun h3 => ?_) (fun h3 => ?_)
      ·
        refine lv_iconst (v := (0 : Int32)) hx hb d_Mdl_add_68 (by decide) ?_
        refine kv_s (rest := []) X hP hS (c_Mdl_flag l D cB cI a bz ha S (1 : Int32) (0 : Int32)) (kw_Mdl_flag hts q_682 ⟨Nat.le_of_ble_eq_true rfl, Nat.le_of_ble_eq_true rfl⟩) 0 rfl rfl rfl hl.1 rfl (lv_room (Nat.le_of_ble_eq_true rfl)) d_Mdl_add_69 (fun S4 H locs e5 hP hS => ?_)
        refine lv_aload_n hx hb d_Mdl_add_72 rfl (lv_at hl 4 rfl) ?_
        refine lv_bipush (v := (64 : Int32)) hx hb d_Mdl_add_73 (by decide) ?_
        refine lv_iload_n hx hb d_Mdl_add_75 rfl (lv_at hl 2 rfl) ?_
        refine lv_iload hx hb d_Mdl_add_76 (lv_at hl 1 rfl) ?_
        refine lv_ixor hx hb d_Mdl_add_78 ?_
        refine lv_iload_n hx hb d_Mdl_add_79 rfl (lv_at hl 5 rfl) ?_
        refine lv_iload hx hb d_Mdl_add_80 (lv_at hl 1 rfl) ?_
        refine lv_ixor hx hb d_Mdl_add_82 ?_
        refine lv_iand hx hb d_Mdl_add_83 ?_
        refine lv_iload hx hb d_Mdl_add_84 (lv_at hl 0 rfl) ?_
        refine lv_iand hx hb d_Mdl_add_86 ?_
        refine lv_if_eq (tgt := 94) hx hb d_Mdl_add_87 rfl (fun h6 => ?_) (fun h6 => ?_)
        ·
          refine lv_iconst (v := (0 : Int32)) hx hb d_Mdl_add_94 (by decide) ?_
          refine kv_s (rest := []) X hP hS (c_Mdl_flag l D cB cI a bz ha S4 (64 : Int32) (0 : Int32)) (kw_Mdl_flag hts q_682 ⟨Nat.le_of_ble_eq_true rfl, Nat.le_of_ble_eq_true rfl⟩) 0 rfl rfl rfl hl.1 rfl (lv_room (Nat.le_of_ble_eq_true rfl)) d_Mdl_add_95 (fun S7 H locs e8 hP hS => ?_)
          refine lv_aload_n hx hb d_Mdl_add_98 rfl (lv_at hl 4 rfl) ?_
          refine lv_aload_n hx hb d_Mdl_add_99 rfl (lv_at hl 4 rfl) ?_
          refine lv_iload hx hb d_Mdl_add_100 (lv_at hl 1 rfl) ?_
          refine lv_iload_n hx hb d_Mdl_add_102 rfl (lv_at hl 3 rfl) ?_
          refine kv_vs (rest := [.ref (a 0)]) X hP hS (c_Mdl_result l D cB cI a bz ha S7 (((f_Mdl_accumulator S) + x1) + (0 : Int32)) (f_Mdl_is S (32 : Int32))) (kw_Mdl_result hts q_749 ⟨Nat.le_of_ble_eq_true rfl, Nat.le_of_ble_eq_true rfl⟩) 0 rfl rfl rfl hl.1 rfl (lv_room (Nat.le_of_ble_eq_true rfl)) d_Mdl_add_103 (fun r9 S10 H locs e11 hP hS => ?_)
          refine kv_s (rest := []) X hP hS (c_Mdl_setAccumulator l D cB cI a bz ha S10 r9) (kw_Mdl_setAccumulator hts q_753 ⟨Nat.le_of_ble_eq_true rfl, Nat.le_of_ble_eq_true rfl⟩) 0 rfl rfl rfl hl.1 rfl (lv_room (Nat.le_of_ble_eq_true rfl)) d_Mdl_add_106 (fun S12 H locs e13 hP hS => ?_)
          exact rt_s X hr hk hP hS (by rw [f_Mdl_add, if_pos h1, if_pos h2, if_pos h3, bs_eq e5, if_pos h6, bs_eq e8, bn_eq e11, bs_eq e13]) d_Mdl_add_109
        ·
          refine lv_iconst (v := (1 : Int32)) hx hb d_Mdl_add_90 (by decide) ?_
          refine lv_goto (tgt := 95) hx hb d_Mdl_add_91 rfl ?_
          refine kv_s (rest := []) X hP hS (c_Mdl_flag l D cB cI a bz ha S4 (64 : Int32) (1 : Int32)) (kw_Mdl_flag hts q_682 ⟨Nat.le_of_ble_eq_true rfl, Nat.le_of_ble_eq_true rfl⟩) 0 rfl rfl rfl hl.1 rfl (lv_room (Nat.le_of_ble_eq_true rfl)) d_Mdl_add_95 (fun S14 H locs e15 hP hS => ?_)
          refine lv_aload_n hx hb d_Mdl_add_98 rfl (lv_at hl 4 rfl) ?_
          refine lv_aload_n hx hb d_Mdl_add_99 rfl (lv_at hl 4 rfl) ?_
          refine lv_iload hx hb d_Mdl_add_100 (lv_at hl 1 rfl) ?_
          refine lv_iload_n hx hb d_Mdl_add_102 rfl (lv_at hl 3 rfl) ?_
          refine kv_vs (rest := [.ref (a 0)]) X hP hS (c_Mdl_result l D cB cI a bz ha S14 (((f_Mdl_accumulator S) + x1) + (0 : Int32)) (f_Mdl_is S (32 : Int32))) (kw_Mdl_result hts q_749 ⟨Nat.le_of_ble_eq_true rfl, Nat.le_of_ble_eq_true rfl⟩) 0 rfl rfl rfl hl.1 rfl (lv_room (Nat.le_of_ble_eq_true rfl)) d_Mdl_add_103 (fun r16 S17 H locs e18 hP hS => ?_)
          refine kv_s (rest := []) X hP hS (c_Mdl_setAccumulator l D cB cI a bz ha S17 r16) (kw_Mdl_setAccumulator hts q_753 ⟨Nat.le_of_ble_eq_true rfl, Nat.le_of_ble_eq_true rfl⟩) 0 rfl rfl rfl hl.1 rfl (lv_room (Nat.le_of_ble_eq_true rfl)) d_Mdl_add_106 (fun S19 H locs e20 hP hS => ?_)
          exact rt_s X hr hk hP hS (by rw [f_Mdl_add, if_pos h1, if_pos h2, if_pos h3, bs_eq e5, if_neg h6, bs_eq e15, bn_eq e18, bs_eq e20]) d_Mdl_add_109
      ·
        refine lv_iconst (v := (1 : Int32)) hx hb d_Mdl_add_64 (by decide) ?_
        refine lv_goto (tgt := 69) hx hb d_Mdl_add_65 rfl ?_
        refine kv_s (rest := []) X hP hS (c_Mdl_flag l D cB cI a bz ha S (1 : Int32) (1 : Int32)) (kw_Mdl_flag hts q_682 ⟨Nat.le_of_ble_eq_true rfl, Nat.le_of_ble_eq_true rfl⟩) 0 rfl rfl rfl hl.1 rfl (lv_room (Nat.le_of_ble_eq_true rfl)) d_Mdl_add_69 (fun S21 H locs e22 hP hS => ?_)
        refine lv_aload_n hx hb d_Mdl_add_72 rfl (lv_at hl 4 rfl) ?_
        refine lv_bipush (v := (64 : Int32)) hx hb d_Mdl_add_73 (by decide) ?_
        refine lv_iload_n hx hb d_Mdl_add_75 rfl (lv_at hl 2 rfl) ?_
        refine lv_iload hx hb d_Mdl_add_76 (lv_at hl 1 rfl) ?_
        refine lv_ixor hx hb d_Mdl_add_78 ?_
        refine lv_iload_n hx hb d_Mdl_add_79 rfl (lv_at hl 5 rfl) ?_
        refine lv_iload hx hb d_Mdl_add_80 (lv_at hl 1 rfl) ?_
        refine lv_ixor hx hb d_Mdl_add_82 ?_
        refine lv_iand hx hb d_Mdl_add_83 ?_
        refine lv_iload hx hb d_Mdl_add_84 (lv_at hl 0 rfl) ?_
        refine lv_iand hx hb d_Mdl_add_86 ?_
        refine lv_if_eq (tgt := 94) hx hb d_Mdl_add_87 rfl (fun h23 => ?_) (fun h23 => ?_)
        ·
          refine lv_iconst (v := (0 : Int32)) hx hb d_Mdl_add_94 (by decide) ?_
          refine kv_s (rest := []) X hP hS (c_Mdl_flag l D cB cI a bz ha S21 (64 : Int32) (0 : Int32)) (kw_Mdl_flag hts q_682 ⟨Nat.le_of_ble_eq_true rfl, Nat.le_of_ble_eq_true rfl⟩) 0 rfl rfl rfl hl.1 rfl (lv_room (Nat.le_of_ble_eq_true rfl)) d_Mdl_add_95 (fun S24 H locs e25 hP hS => ?_)
          refine lv_aload_n hx hb d_Mdl_add_98 rfl (lv_at hl 4 rfl) ?_
          refine lv_aload_n hx hb d_Mdl_add_99 rfl (lv_at hl 4 rfl) ?_
          refine lv_iload hx hb d_Mdl_add_100 (lv_at hl 1 rfl) ?_
          refine lv_iload_n hx hb d_Mdl_add_102 rfl (lv_at hl 3 rfl) ?_
          refine kv_vs (rest := [.ref (a 0)]) X hP hS (c_Mdl_result l D cB cI a bz ha S24 (((f_Mdl_accumulator S) + x1) + (0 : Int32)) (f_Mdl_is S (32 : Int32))) (kw_Mdl_result hts q_749 ⟨Nat.le_of_ble_eq_true rfl, Nat.le_of_ble_eq_true rfl⟩) 0 rfl rfl rfl hl.1 rfl (lv_room (Nat.le_of_ble_eq_true rfl)) d_Mdl_add_103 (fun r26 S27 H locs e28 hP hS => ?_)
          refine kv_s (rest := []) X hP hS (c_Mdl_setAccumulator l D cB cI a bz ha S27 r26) (kw_Mdl_setAccumulator hts q_753 ⟨Nat.le_of_ble_eq_true rfl, Nat.le_of_ble_eq_true rfl⟩) 0 rfl rfl rfl hl.1 rfl (lv_room (Nat.le_of_ble_eq_true rfl)) d_Mdl_add_106 (fun S29 H locs e30 hP hS => ?_)
          exact rt_s X hr hk hP hS (by rw [f_Mdl_add, if_pos h1, if_pos h2, if_neg h3, bs_eq e22, if_pos h23, bs_eq e25, bn_eq e28, bs_eq e30]) d_Mdl_add_109
        ·
          refine lv_iconst (v := (1 : Int32)) hx hb d_Mdl_add_90 (by decide) ?_
          refine lv_goto (tgt := 95) hx hb d_Mdl_add_91 rfl ?_
          refine kv_s (rest := []) X hP hS (c_Mdl_flag l D cB cI a bz ha S21 (64 : Int32) (1 : Int32)) (kw_Mdl_flag hts q_682 ⟨Nat.le_of_ble_eq_true rfl, Nat.le_of_ble_eq_true rfl⟩) 0 rfl rfl rfl hl.1 rfl (lv_room (Nat.le_of_ble_eq_true rfl)) d_Mdl_add_95 (fun S31 H locs e32 hP hS => ?_)
          refine lv_aload_n hx hb d_Mdl_add_98 rfl (lv_at hl 4 rfl) ?_
          refine lv_aload_n hx hb d_Mdl_add_99 rfl (lv_at hl 4 rfl) ?_
          refine lv_iload hx hb d_Mdl_add_100 (lv_at hl 1 rfl) ?_
          refine lv_iload_n hx hb d_Mdl_add_102 rfl (lv_at hl 3 rfl) ?_
          refine kv_vs (rest := [.ref (a 0)]) X hP hS (c_Mdl_result l D cB cI a bz ha S31 (((f_Mdl_accumulator S) + x1) + (0 : Int32)) (f_Mdl_is S (32 : Int32))) (kw_Mdl_result hts q_749 ⟨Nat.le_of_ble_eq_true rfl, Nat.le_of_ble_eq_true rfl⟩) 0 rfl rfl rfl hl.1 rfl (lv_room (Nat.le_of_ble_eq_true rfl)) d_Mdl_add_103 (fun r33 S34 H locs e35 hP hS => ?_)
          refine kv_s (rest := []) X hP hS (c_Mdl_setAccumulator l D cB cI a bz ha S34 r33) (kw_Mdl_setAccumulator hts q_753 ⟨Nat.le_of_ble_eq_true rfl, Nat.le_of_ble_eq_true rfl⟩) 0 rfl rfl rfl hl.1 rfl (lv_room (Nat.le_of_ble_eq_true rfl)) d_Mdl_add_106 (fun S36 H locs e37 hP hS => ?_)
          exact rt_s X hr hk hP hS (by rw [f_Mdl_add, if_pos h1, if_pos h2, if_neg h3, bs_eq e22, if_neg h23, bs_eq e32, bn_eq e35, bs_eq e37]) d_Mdl_add_109
    ·
      refine lv_sipush (v := (128 : Int32)) hx hb d_Mdl_add_35 (by decide) ?_
      refine lv_goto (tgt := 43) hx hb d_Mdl_add_38 rfl ?_
      refine lv_istore hx hb d_Mdl_add_43 hl (Nat.le_of_ble_eq_true rfl) rfl (fun ls hl => ?_)
      have hl : lv_has ls 6 [(5, .int ((128 : Int32))), (4, .int ((((f_Mdl_accumulator S) + x1) + (0 : Int32)))), (3, .int ((f_Mdl_accumulator S))), (2, .int ((f_Mdl_is S (32 : Int32)))), (0, .ref (a 0)), (1, .int (x1))] := hl
      refine lv_aload_n hx hb d_Mdl_add_45 rfl (lv_at hl 4 rfl) ?_
      refine lv_iconst (v := (1 : Int32)) hx hb d_Mdl_add_46 (by decide) ?_
      refine lv_iload hx hb d_Mdl_add_47 (lv_at hl 1 rfl) ?_
      refine lv_iload_n hx hb d_Mdl_add_49 rfl (lv_at hl 3 rfl) ?_
      refine lv_if_eq (tgt := 59) hx hb d_Mdl_add_50 rfl (fun h => absurd h h2) (fun _ => ?_)
      refine lv_sipush (v := (255 : Int32)) hx hb d_Mdl_add_53 (by decide) ?_
      refine lv_goto (tgt := 61) hx hb d_Mdl_add_56 rfl ?_
      refine lv_icmp_le (tgt := 68) hx hb d_Mdl_add_61 rfl (fun h38 => ?_) (fun h38 => ?_)
      ·
        refine lv_iconst (v := (0 : Int32)) hx hb d_Mdl_add_68 (by decide) ?_
        refine kv_s (rest := []) X hP hS (c_Mdl_flag l D cB cI a bz ha S (1 : Int32) (0 : Int32)) (kw_Mdl_flag hts q_682 ⟨Nat.le_of_ble_eq_true rfl, Nat.le_of_ble_eq_true rfl⟩) 0 rfl rfl rfl hl.1 rfl (lv_room (Nat.le_of_ble_eq_true rfl)) d_Mdl_add_69 (fun S39 H locs e40 hP hS => ?_)
        refine lv_aload_n hx hb d_Mdl_add_72 rfl (lv_at hl 4 rfl) ?_
        refine lv_bipush (v := (64 : Int32)) hx hb d_Mdl_add_73 (by decide) ?_
        refine lv_iload_n hx hb d_Mdl_add_75 rfl (lv_at hl 2 rfl) ?_
        refine lv_iload hx hb d_Mdl_add_76 (lv_at hl 1 rfl) ?_
        refine lv_ixor hx hb d_Mdl_add_78 ?_
        refine lv_iload_n hx hb d_Mdl_add_79 rfl (lv_at hl 5 rfl) ?_
        refine lv_iload hx hb d_Mdl_add_80 (lv_at hl 1 rfl) ?_
        refine lv_ixor hx hb d_Mdl_add_82 ?_
        refine lv_iand hx hb d_Mdl_add_83 ?_
        refine lv_iload hx hb d_Mdl_add_84 (lv_at hl 0 rfl) ?_
        refine lv_iand hx hb d_Mdl_add_86 ?_
        refine lv_if_eq (tgt := 94) hx hb d_Mdl_add_87 rfl (fun h41 => ?_) (fun h41 => ?_)
        ·
          refine lv_iconst (v := (0 : Int32)) hx hb d_Mdl_add_94 (by decide) ?_
          refine kv_s (rest := []) X hP hS (c_Mdl_flag l D cB cI a bz ha S39 (64 : Int32) (0 : Int32)) (kw_Mdl_flag hts q_682 ⟨Nat.le_of_ble_eq_true rfl, Nat.le_of_ble_eq_true rfl⟩) 0 rfl rfl rfl hl.1 rfl (lv_room (Nat.le_of_ble_eq_true rfl)) d_Mdl_add_95 (fun S42 H locs e43 hP hS => ?_)
          refine lv_aload_n hx hb d_Mdl_add_98 rfl (lv_at hl 4 rfl) ?_
          refine lv_aload_n hx hb d_Mdl_add_99 rfl (lv_at hl 4 rfl) ?_
          refine lv_iload hx hb d_Mdl_add_100 (lv_at hl 1 rfl) ?_
          refine lv_iload_n hx hb d_Mdl_add_102 rfl (lv_at hl 3 rfl) ?_
          refine kv_vs (rest := [.ref (a 0)]) X hP hS (c_Mdl_result l D cB cI a bz ha S42 (((f_Mdl_accumulator S) + x1) + (0 : Int32)) (f_Mdl_is S (32 : Int32))) (kw_Mdl_result hts q_749 ⟨Nat.le_of_ble_eq_true rfl, Nat.le_of_ble_eq_true rfl⟩) 0 rfl rfl rfl hl.1 rfl (lv_room (Nat.le_of_ble_eq_true rfl)) d_Mdl_add_103 (fun r44 S45 H locs e46 hP hS => ?_)
          refine kv_s (rest := []) X hP hS (c_Mdl_setAccumulator l D cB cI a bz ha S45 r44) (kw_Mdl_setAccumulator hts q_753 ⟨Nat.le_of_ble_eq_true rfl, Nat.le_of_ble_eq_true rfl⟩) 0 rfl rfl rfl hl.1 rfl (lv_room (Nat.le_of_ble_eq_true rfl)) d_Mdl_add_106 (fun S47 H locs e48 hP hS => ?_)
          exact rt_s X hr hk hP hS (by rw [f_Mdl_add, if_pos h1, if_neg h2, if_pos h38, bs_eq e40, if_pos h41, bs_eq e43, bn_eq e46, bs_eq e48]) d_Mdl_add_109
        ·
          refine lv_iconst (v := (1 : Int32)) hx hb d_Mdl_add_90 (by decide) ?_
          refine lv_goto (tgt := 95) hx hb d_Mdl_add_91 rfl ?_
          refine kv_s (rest := []) X hP hS (c_Mdl_flag l D cB cI a bz ha S39 (64 : Int32) (1 : Int32)) (kw_Mdl_flag hts q_682 ⟨Nat.le_of_ble_eq_true rfl, Nat.le_of_ble_eq_true rfl⟩) 0 rfl rfl rfl hl.1 rfl (lv_room (Nat.le_of_ble_eq_true rfl)) d_Mdl_add_95 (fun S49 H locs e50 hP hS => ?_)
          refine lv_aload_n hx hb d_Mdl_add_98 rfl (lv_at hl 4 rfl) ?_
          refine lv_aload_n hx hb d_Mdl_add_99 rfl (lv_at hl 4 rfl) ?_
          refine lv_iload hx hb d_Mdl_add_100 (lv_at hl 1 rfl) ?_
          refine lv_iload_n hx hb d_Mdl_add_102 rfl (lv_at hl 3 rfl) ?_
          refine kv_vs (rest := [.ref (a 0)]) X hP hS (c_Mdl_result l D cB cI a bz ha S49 (((f_Mdl_accumulator S) + x1) + (0 : Int32)) (f_Mdl_is S (32 : Int32))) (kw_Mdl_result hts q_749 ⟨Nat.le_of_ble_eq_true rfl, Nat.le_of_ble_eq_true rfl⟩) 0 rfl rfl rfl hl.1 rfl (lv_room (Nat.le_of_ble_eq_true rfl)) d_Mdl_add_103 (fun r51 S52 H locs e53 hP hS => ?_)
          refine kv_s (rest := []) X hP hS (c_Mdl_setAccumulator l D cB cI a bz ha S52 r51) (kw_Mdl_setAccumulator hts q_753 ⟨Nat.le_of_ble_eq_true rfl, Nat.le_of_ble_eq_true rfl⟩) 0 rfl rfl rfl hl.1 rfl (lv_room (Nat.le_of_ble_eq_true rfl)) d_Mdl_add_106 (fun S54 H locs e55 hP hS => ?_)
          exact rt_s X hr hk hP hS (by rw [f_Mdl_add, if_pos h1, if_neg h2, if_pos h38, bs_eq e40, if_neg h41, bs_eq e50, bn_eq e53, bs_eq e55]) d_Mdl_add_109
      ·
        refine lv_iconst (v := (1 : Int32)) hx hb d_Mdl_add_64 (by decide) ?_
        refine lv_goto (tgt := 69) hx hb d_Mdl_add_65 rfl ?_
        refine kv_s (rest := []) X hP hS (c_Mdl_flag l D cB cI a bz ha S (1 : Int32) (1 : Int32)) (kw_Mdl_flag hts q_682 ⟨Nat.le_of_ble_eq_true rfl, Nat.le_of_ble_eq_true rfl⟩) 0 rfl rfl rfl hl.1 rfl (lv_room (Nat.le_of_ble_eq_true rfl)) d_Mdl_add_69 (fun S56 H locs e57 hP hS => ?_)
        refine lv_aload_n hx hb d_Mdl_add_72 rfl (lv_at hl 4 rfl) ?_
        refine lv_bipush (v := (64 : Int32)) hx hb d_Mdl_add_73 (by decide) ?_
        refine lv_iload_n hx hb d_Mdl_add_75 rfl (lv_at hl 2 rfl) ?_
        refine lv_iload hx hb d_Mdl_add_76 (lv_at hl 1 rfl) ?_
        refine lv_ixor hx hb d_Mdl_add_78 ?_
        refine lv_iload_n hx hb d_Mdl_add_79 rfl (lv_at hl 5 rfl) ?_
        refine lv_iload hx hb d_Mdl_add_80 (lv_at hl 1 rfl) ?_
        refine lv_ixor hx hb d_Mdl_add_82 ?_
        refine lv_iand hx hb d_Mdl_add_83 ?_
        refine lv_iload hx hb d_Mdl_add_84 (lv_at hl 0 rfl) ?_
        refine lv_iand hx hb d_Mdl_add_86 ?_
        refine lv_if_eq (tgt := 94) hx hb d_Mdl_add_87 rfl (fun h58 => ?_) (fun h58 => ?_)
        ·
          refine lv_iconst (v := (0 : Int32)) hx hb d_Mdl_add_94 (by decide) ?_
          refine kv_s (rest := []) X hP hS (c_Mdl_flag l D cB cI a bz ha S56 (64 : Int32) (0 : Int32)) (kw_Mdl_flag hts q_682 ⟨Nat.le_of_ble_eq_true rfl, Nat.le_of_ble_eq_true rfl⟩) 0 rfl rfl rfl hl.1 rfl (lv_room (Nat.le_of_ble_eq_true rfl)) d_Mdl_add_95 (fun S59 H locs e60 hP hS => ?_)
          refine lv_aload_n hx hb d_Mdl_add_98 rfl (lv_at hl 4 rfl) ?_
          refine lv_aload_n hx hb d_Mdl_add_99 rfl (lv_at hl 4 rfl) ?_
          refine lv_iload hx hb d_Mdl_add_100 (lv_at hl 1 rfl) ?_
          refine lv_iload_n hx hb d_Mdl_add_102 rfl (lv_at hl 3 rfl) ?_
          refine kv_vs (rest := [.ref (a 0)]) X hP hS (c_Mdl_result l D cB cI a bz ha S59 (((f_Mdl_accumulator S) + x1) + (0 : Int32)) (f_Mdl_is S (32 : Int32))) (kw_Mdl_result hts q_749 ⟨Nat.le_of_ble_eq_true rfl, Nat.le_of_ble_eq_true rfl⟩) 0 rfl rfl rfl hl.1 rfl (lv_room (Nat.le_of_ble_eq_true rfl)) d_Mdl_add_103 (fun r61 S62 H locs e63 hP hS => ?_)
          refine kv_s (rest := []) X hP hS (c_Mdl_setAccumulator l D cB cI a bz ha S62 r61) (kw_Mdl_setAccumulator hts q_753 ⟨Nat.le_of_ble_eq_true rfl, Nat.le_of_ble_eq_true rfl⟩) 0 rfl rfl rfl hl.1 rfl (lv_room (Nat.le_of_ble_eq_true rfl)) d_Mdl_add_106 (fun S64 H locs e65 hP hS => ?_)
          exact rt_s X hr hk hP hS (by rw [f_Mdl_add, if_pos h1, if_neg h2, if_neg h38, bs_eq e57, if_pos h58, bs_eq e60, bn_eq e63, bs_eq e65]) d_Mdl_add_109
        ·
          refine lv_iconst (v := (1 : Int32)) hx hb d_Mdl_add_90 (by decide) ?_
          refine lv_goto (tgt := 95) hx hb d_Mdl_add_91 rfl ?_
          refine kv_s (rest := []) X hP hS (c_Mdl_flag l D cB cI a bz ha S56 (64 : Int32) (1 : Int32)) (kw_Mdl_flag hts q_682 ⟨Nat.le_of_ble_eq_true rfl, Nat.le_of_ble_eq_true rfl⟩) 0 rfl rfl rfl hl.1 rfl (lv_room (Nat.le_of_ble_eq_true rfl)) d_Mdl_add_95 (fun S66 H locs e67 hP hS => ?_)
          refine lv_aload_n hx hb d_Mdl_add_98 rfl (lv_at hl 4 rfl) ?_
          refine lv_aload_n hx hb d_Mdl_add_99 rfl (lv_at hl 4 rfl) ?_
          refine lv_iload hx hb d_Mdl_add_100 (lv_at hl 1 rfl) ?_
          refine lv_iload_n hx hb d_Mdl_add_102 rfl (lv_at hl 3 rfl) ?_
          refine kv_vs (rest := [.ref (a 0)]) X hP hS (c_Mdl_result l D cB cI a bz ha S66 (((f_Mdl_accumulator S) + x1) + (0 : Int32)) (f_Mdl_is S (32 : Int32))) (kw_Mdl_result hts q_749 ⟨Nat.le_of_ble_eq_true rfl, Nat.le_of_ble_eq_true rfl⟩) 0 rfl rfl rfl hl.1 rfl (lv_room (Nat.le_of_ble_eq_true rfl)) d_Mdl_add_103 (fun r68 S69 H locs e70 hP hS => ?_)
          refine kv_s (rest := []) X hP hS (c_Mdl_setAccumulator l D cB cI a bz ha S69 r68) (kw_Mdl_setAccumulator hts q_753 ⟨Nat.le_of_ble_eq_true rfl, Nat.le_of_ble_eq_true rfl⟩) 0 rfl rfl rfl hl.1 rfl (lv_room (Nat.le_of_ble_eq_true rfl)) d_Mdl_add_106 (fun S71 H locs e72 hP hS => ?_)
          exact rt_s X hr hk hP hS (by rw [f_Mdl_add, if_pos h1, if_neg h2, if_neg h38, bs_eq e57, if_neg h58, bs_eq e67, bn_eq e70, bs_eq e72]) d_Mdl_add_109
  ·
    refine lv_iconst (v := (1 : Int32)) hx hb d_Mdl_add_23 (by decide) ?_
    refine lv_goto (tgt := 28) hx hb d_Mdl_add_24 rfl ?_
    refine lv_iadd hx hb d_Mdl_add_28 ?_
    refine lv_istore hx hb d_Mdl_add_29 hl (Nat.le_of_ble_eq_true rfl) rfl (fun ls hl => ?_)
    have hl : lv_has ls 6 [(4, .int ((((f_Mdl_accumulator S) + x1) + (1 : Int32)))), (3, .int ((f_Mdl_accumulator S))), (2, .int ((f_Mdl_is S (32 : Int32)))), (0, .ref (a 0)), (1, .int (x1))] := hl
    refine lv_iload_n hx hb d_Mdl_add_31 rfl (lv_at hl 2 rfl) ?_
    refine lv_if_eq (tgt := 41) hx hb d_Mdl_add_32 rfl (fun h73 => ?_) (fun h73 => ?_)
    ·
      refine lv_ldc (v := (32768 : Int32)) hx hb hown (hts _ q_748) d_Mdl_add_41 ?_
      refine lv_istore hx hb d_Mdl_add_43 hl (Nat.le_of_ble_eq_true rfl) rfl (fun ls hl => ?_)
      have hl : lv_has ls 6 [(5, .int ((32768 : Int32))), (4, .int ((((f_Mdl_accumulator S) + x1) + (1 : Int32)))), (3, .int ((f_Mdl_accumulator S))), (2, .int ((f_Mdl_is S (32 : Int32)))), (0, .ref (a 0)), (1, .int (x1))] := hl
      refine lv_aload_n hx hb d_Mdl_add_45 rfl (lv_at hl 4 rfl) ?_
      refine lv_iconst (v := (1 : Int32)) hx hb d_Mdl_add_46 (by decide) ?_
      refine lv_iload hx hb d_Mdl_add_47 (lv_at hl 1 rfl) ?_
      refine lv_iload_n hx hb d_Mdl_add_49 rfl (lv_at hl 3 rfl) ?_
      refine lv_if_eq (tgt := 59) hx hb d_Mdl_add_50 rfl (fun _ => ?_) (fun h => absurd h73 h)
      refine lv_ldc (v := (65535 : Int32)) hx hb hown (hts _ q_630) d_Mdl_add_59 ?_
      refine lv_icmp_le (tgt := 68) hx hb d_Mdl_add_61 rfl (fun h74 => ?_) (fun h74 => ?_)
      ·
        refine lv_iconst (v := (0 : Int32)) hx hb d_Mdl_add_68 (by decide) ?_
        refine kv_s (rest := []) X hP hS (c_Mdl_flag l D cB cI a bz ha S (1 : Int32) (0 : Int32)) (kw_Mdl_flag hts q_682 ⟨Nat.le_of_ble_eq_true rfl, Nat.le_of_ble_eq_true rfl⟩) 0 rfl rfl rfl hl.1 rfl (lv_room (Nat.le_of_ble_eq_true rfl)) d_Mdl_add_69 (fun S75 H locs e76 hP hS => ?_)
        refine lv_aload_n hx hb d_Mdl_add_72 rfl (lv_at hl 4 rfl) ?_
        refine lv_bipush (v := (64 : Int32)) hx hb d_Mdl_add_73 (by decide) ?_
        refine lv_iload_n hx hb d_Mdl_add_75 rfl (lv_at hl 2 rfl) ?_
        refine lv_iload hx hb d_Mdl_add_76 (lv_at hl 1 rfl) ?_
        refine lv_ixor hx hb d_Mdl_add_78 ?_
        refine lv_iload_n hx hb d_Mdl_add_79 rfl (lv_at hl 5 rfl) ?_
        refine lv_iload hx hb d_Mdl_add_80 (lv_at hl 1 rfl) ?_
        refine lv_ixor hx hb d_Mdl_add_82 ?_
        refine lv_iand hx hb d_Mdl_add_83 ?_
        refine lv_iload hx hb d_Mdl_add_84 (lv_at hl 0 rfl) ?_
        refine lv_iand hx hb d_Mdl_add_86 ?_
        refine lv_if_eq (tgt := 94) hx hb d_Mdl_add_87 rfl (fun h77 => ?_) (fun h77 => ?_)
        ·
          refine lv_iconst (v := (0 : Int32)) hx hb d_Mdl_add_94 (by decide) ?_
          refine kv_s (rest := []) X hP hS (c_Mdl_flag l D cB cI a bz ha S75 (64 : Int32) (0 : Int32)) (kw_Mdl_flag hts q_682 ⟨Nat.le_of_ble_eq_true rfl, Nat.le_of_ble_eq_true rfl⟩) 0 rfl rfl rfl hl.1 rfl (lv_room (Nat.le_of_ble_eq_true rfl)) d_Mdl_add_95 (fun S78 H locs e79 hP hS => ?_)
          refine lv_aload_n hx hb d_Mdl_add_98 rfl (lv_at hl 4 rfl) ?_
          refine lv_aload_n hx hb d_Mdl_add_99 rfl (lv_at hl 4 rfl) ?_
          refine lv_iload hx hb d_Mdl_add_100 (lv_at hl 1 rfl) ?_
          refine lv_iload_n hx hb d_Mdl_add_102 rfl (lv_at hl 3 rfl) ?_
          refine kv_vs (rest := [.ref (a 0)]) X hP hS (c_Mdl_result l D cB cI a bz ha S78 (((f_Mdl_accumulator S) + x1) + (1 : Int32)) (f_Mdl_is S (32 : Int32))) (kw_Mdl_result hts q_749 ⟨Nat.le_of_ble_eq_true rfl, Nat.le_of_ble_eq_true rfl⟩) 0 rfl rfl rfl hl.1 rfl (lv_room (Nat.le_of_ble_eq_true rfl)) d_Mdl_add_103 (fun r80 S81 H locs e82 hP hS => ?_)
          refine kv_s (rest := []) X hP hS (c_Mdl_setAccumulator l D cB cI a bz ha S81 r80) (kw_Mdl_setAccumulator hts q_753 ⟨Nat.le_of_ble_eq_true rfl, Nat.le_of_ble_eq_true rfl⟩) 0 rfl rfl rfl hl.1 rfl (lv_room (Nat.le_of_ble_eq_true rfl)) d_Mdl_add_106 (fun S83 H locs e84 hP hS => ?_)
          exact rt_s X hr hk hP hS (by rw [f_Mdl_add, if_neg h1, if_pos h73, if_pos h74, bs_eq e76, if_pos h77, bs_eq e79, bn_eq e82, bs_eq e84]) d_Mdl_add_109
        ·
          refine lv_iconst (v := (1 : Int32)) hx hb d_Mdl_add_90 (by decide) ?_
          refine lv_goto (tgt := 95) hx hb d_Mdl_add_91 rfl ?_
          refine kv_s (rest := []) X hP hS (c_Mdl_flag l D cB cI a bz ha S75 (64 : Int32) (1 : Int32)) (kw_Mdl_flag hts q_682 ⟨Nat.le_of_ble_eq_true rfl, Nat.le_of_ble_eq_true rfl⟩) 0 rfl rfl rfl hl.1 rfl (lv_room (Nat.le_of_ble_eq_true rfl)) d_Mdl_add_95 (fun S85 H locs e86 hP hS => ?_)
          refine lv_aload_n hx hb d_Mdl_add_98 rfl (lv_at hl 4 rfl) ?_
          refine lv_aload_n hx hb d_Mdl_add_99 rfl (lv_at hl 4 rfl) ?_
          refine lv_iload hx hb d_Mdl_add_100 (lv_at hl 1 rfl) ?_
          refine lv_iload_n hx hb d_Mdl_add_102 rfl (lv_at hl 3 rfl) ?_
          refine kv_vs (rest := [.ref (a 0)]) X hP hS (c_Mdl_result l D cB cI a bz ha S85 (((f_Mdl_accumulator S) + x1) + (1 : Int32)) (f_Mdl_is S (32 : Int32))) (kw_Mdl_result hts q_749 ⟨Nat.le_of_ble_eq_true rfl, Nat.le_of_ble_eq_true rfl⟩) 0 rfl rfl rfl hl.1 rfl (lv_room (Nat.le_of_ble_eq_true rfl)) d_Mdl_add_103 (fun r87 S88 H locs e89 hP hS => ?_)
          refine kv_s (rest := []) X hP hS (c_Mdl_setAccumulator l D cB cI a bz ha S88 r87) (kw_Mdl_setAccumulator hts q_753 ⟨Nat.le_of_ble_eq_true rfl, Nat.le_of_ble_eq_true rfl⟩) 0 rfl rfl rfl hl.1 rfl (lv_room (Nat.le_of_ble_eq_true rfl)) d_Mdl_add_106 (fun S90 H locs e91 hP hS => ?_)
          exact rt_s X hr hk hP hS (by rw [f_Mdl_add, if_neg h1, if_pos h73, if_pos h74, bs_eq e76, if_neg h77, bs_eq e86, bn_eq e89, bs_eq e91]) d_Mdl_add_109
      ·
        refine lv_iconst (v := (1 : Int32)) hx hb d_Mdl_add_64 (by decide) ?_
        refine lv_goto (tgt := 69) hx hb d_Mdl_add_65 rfl ?_
        refine kv_s (rest := []) X hP hS (c_Mdl_flag l D cB cI a bz ha S (1 : Int32) (1 : Int32)) (kw_Mdl_flag hts q_682 ⟨Nat.le_of_ble_eq_true rfl, Nat.le_of_ble_eq_true rfl⟩) 0 rfl rfl rfl hl.1 rfl (lv_room (Nat.le_of_ble_eq_true rfl)) d_Mdl_add_69 (fun S92 H locs e93 hP hS => ?_)
        refine lv_aload_n hx hb d_Mdl_add_72 rfl (lv_at hl 4 rfl) ?_
        refine lv_bipush (v := (64 : Int32)) hx hb d_Mdl_add_73 (by decide) ?_
        refine lv_iload_n hx hb d_Mdl_add_75 rfl (lv_at hl 2 rfl) ?_
        refine lv_iload hx hb d_Mdl_add_76 (lv_at hl 1 rfl) ?_
        refine lv_ixor hx hb d_Mdl_add_78 ?_
        refine lv_iload_n hx hb d_Mdl_add_79 rfl (lv_at hl 5 rfl) ?_
        refine lv_iload hx hb d_Mdl_add_80 (lv_at hl 1 rfl) ?_
        refine lv_ixor hx hb d_Mdl_add_82 ?_
        refine lv_iand hx hb d_Mdl_add_83 ?_
        refine lv_iload hx hb d_Mdl_add_84 (lv_at hl 0 rfl) ?_
        refine lv_iand hx hb d_Mdl_add_86 ?_
        refine lv_if_eq (tgt := 94) hx hb d_Mdl_add_87 rfl (fun h94 => ?_) (fun h94 => ?_)
        ·
          refine lv_iconst (v := (0 : Int32)) hx hb d_Mdl_add_94 (by decide) ?_
          refine kv_s (rest := []) X hP hS (c_Mdl_flag l D cB cI a bz ha S92 (64 : Int32) (0 : Int32)) (kw_Mdl_flag hts q_682 ⟨Nat.le_of_ble_eq_true rfl, Nat.le_of_ble_eq_true rfl⟩) 0 rfl rfl rfl hl.1 rfl (lv_room (Nat.le_of_ble_eq_true rfl)) d_Mdl_add_95 (fun S95 H locs e96 hP hS => ?_)
          refine lv_aload_n hx hb d_Mdl_add_98 rfl (lv_at hl 4 rfl) ?_
          refine lv_aload_n hx hb d_Mdl_add_99 rfl (lv_at hl 4 rfl) ?_
          refine lv_iload hx hb d_Mdl_add_100 (lv_at hl 1 rfl) ?_
          refine lv_iload_n hx hb d_Mdl_add_102 rfl (lv_at hl 3 rfl) ?_
          refine kv_vs (rest := [.ref (a 0)]) X hP hS (c_Mdl_result l D cB cI a bz ha S95 (((f_Mdl_accumulator S) + x1) + (1 : Int32)) (f_Mdl_is S (32 : Int32))) (kw_Mdl_result hts q_749 ⟨Nat.le_of_ble_eq_true rfl, Nat.le_of_ble_eq_true rfl⟩) 0 rfl rfl rfl hl.1 rfl (lv_room (Nat.le_of_ble_eq_true rfl)) d_Mdl_add_103 (fun r97 S98 H locs e99 hP hS => ?_)
          refine kv_s (rest := []) X hP hS (c_Mdl_setAccumulator l D cB cI a bz ha S98 r97) (kw_Mdl_setAccumulator hts q_753 ⟨Nat.le_of_ble_eq_true rfl, Nat.le_of_ble_eq_true rfl⟩) 0 rfl rfl rfl hl.1 rfl (lv_room (Nat.le_of_ble_eq_true rfl)) d_Mdl_add_106 (fun S100 H locs e101 hP hS => ?_)
          exact rt_s X hr hk hP hS (by rw [f_Mdl_add, if_neg h1, if_pos h73, if_neg h74, bs_eq e93, if_pos h94, bs_eq e96, bn_eq e99, bs_eq e101]) d_Mdl_add_109
        ·
          refine lv_iconst (v := (1 : Int32)) hx hb d_Mdl_add_90 (by decide) ?_
          refine lv_goto (tgt := 95) hx hb d_Mdl_add_91 rfl ?_
          refine kv_s (rest := []) X hP hS (c_Mdl_flag l D cB cI a bz ha S92 (64 : Int32) (1 : Int32)) (kw_Mdl_flag hts q_682 ⟨Nat.le_of_ble_eq_true rfl, Nat.le_of_ble_eq_true rfl⟩) 0 rfl rfl rfl hl.1 rfl (lv_room (Nat.le_of_ble_eq_true rfl)) d_Mdl_add_95 (fun S102 H locs e103 hP hS => ?_)
          refine lv_aload_n hx hb d_Mdl_add_98 rfl (lv_at hl 4 rfl) ?_
          refine lv_aload_n hx hb d_Mdl_add_99 rfl (lv_at hl 4 rfl) ?_
          refine lv_iload hx hb d_Mdl_add_100 (lv_at hl 1 rfl) ?_
          refine lv_iload_n hx hb d_Mdl_add_102 rfl (lv_at hl 3 rfl) ?_
          refine kv_vs (rest := [.ref (a 0)]) X hP hS (c_Mdl_result l D cB cI a bz ha S102 (((f_Mdl_accumulator S) + x1) + (1 : Int32)) (f_Mdl_is S (32 : Int32))) (kw_Mdl_result hts q_749 ⟨Nat.le_of_ble_eq_true rfl, Nat.le_of_ble_eq_true rfl⟩) 0 rfl rfl rfl hl.1 rfl (lv_room (Nat.le_of_ble_eq_true rfl)) d_Mdl_add_103 (fun r104 S105 H locs e106 hP hS => ?_)
          refine kv_s (rest := []) X hP hS (c_Mdl_setAccumulator l D cB cI a bz ha S105 r104) (kw_Mdl_setAccumulator hts q_753 ⟨Nat.le_of_ble_eq_true rfl, Nat.le_of_ble_eq_true rfl⟩) 0 rfl rfl rfl hl.1 rfl (lv_room (Nat.le_of_ble_eq_true rfl)) d_Mdl_add_106 (fun S107 H locs e108 hP hS => ?_)
          exact rt_s X hr hk hP hS (by rw [f_Mdl_add, if_neg h1, if_pos h73, if_neg h74, bs_eq e93, if_neg h94, bs_eq e103, bn_eq e106, bs_eq e108]) d_Mdl_add_109
    ·
      refine lv_sipush (v := (128 : Int32)) hx hb d_Mdl_add_35 (by decide) ?_
      refine lv_goto (tgt := 43) hx hb d_Mdl_add_38 rfl ?_
      refine lv_istore hx hb d_Mdl_add_43 hl (Nat.le_of_ble_eq_true rfl) rfl (fun ls hl => ?_)
      have hl : lv_has ls 6 [(5, .int ((128 : Int32))), (4, .int ((((f_Mdl_accumulator S) + x1) + (1 : Int32)))), (3, .int ((f_Mdl_accumulator S))), (2, .int ((f_Mdl_is S (32 : Int32)))), (0, .ref (a 0)), (1, .int (x1))] := hl
      refine lv_aload_n hx hb d_Mdl_add_45 rfl (lv_at hl 4 rfl) ?_
      refine lv_iconst (v := (1 : Int32)) hx hb d_Mdl_add_46 (by decide) ?_
      refine lv_iload hx hb d_Mdl_add_47 (lv_at hl 1 rfl) ?_
      refine lv_iload_n hx hb d_Mdl_add_49 rfl (lv_at hl 3 rfl) ?_
      refine lv_if_eq (tgt := 59) hx hb d_Mdl_add_50 rfl (fun h => absurd h h73) (fun _ => ?_)
      refine lv_sipush (v := (255 : Int32)) hx hb d_Mdl_add_53 (by decide) ?_
      refine lv_goto (tgt := 61) hx hb d_Mdl_add_56 rfl ?_
      refine lv_icmp_le (tgt := 68) hx hb d_Mdl_add_61 rfl (fun h109 => ?_) (fun h109 => ?_)
      ·
        refine lv_iconst (v := (0 : Int32)) hx hb d_Mdl_add_68 (by decide) ?_
        refine kv_s (rest := []) X hP hS (c_Mdl_flag l D cB cI a bz ha S (1 : Int32) (0 : Int32)) (kw_Mdl_flag hts q_682 ⟨Nat.le_of_ble_eq_true rfl, Nat.le_of_ble_eq_true rfl⟩) 0 rfl rfl rfl hl.1 rfl (lv_room (Nat.le_of_ble_eq_true rfl)) d_Mdl_add_69 (fun S110 H locs e111 hP hS => ?_)
        refine lv_aload_n hx hb d_Mdl_add_72 rfl (lv_at hl 4 rfl) ?_
        refine lv_bipush (v := (64 : Int32)) hx hb d_Mdl_add_73 (by decide) ?_
        refine lv_iload_n hx hb d_Mdl_add_75 rfl (lv_at hl 2 rfl) ?_
        refine lv_iload hx hb d_Mdl_add_76 (lv_at hl 1 rfl) ?_
        refine lv_ixor hx hb d_Mdl_add_78 ?_
        refine lv_iload_n hx hb d_Mdl_add_79 rfl (lv_at hl 5 rfl) ?_
        refine lv_iload hx hb d_Mdl_add_80 (lv_at hl 1 rfl) ?_
        refine lv_ixor hx hb d_Mdl_add_82 ?_
        refine lv_iand hx hb d_Mdl_add_83 ?_
        refine lv_iload hx hb d_Mdl_add_84 (lv_at hl 0 rfl) ?_
        refine lv_iand hx hb d_Mdl_add_86 ?_
        refine lv_if_eq (tgt := 94) hx hb d_Mdl_add_87 rfl (fun h112 => ?_) (fun h112 => ?_)
        ·
          refine lv_iconst (v := (0 : Int32)) hx hb d_Mdl_add_94 (by decide) ?_
          refine kv_s (rest := []) X hP hS (c_Mdl_flag l D cB cI a bz ha S110 (64 : Int32) (0 : Int32)) (kw_Mdl_flag hts q_682 ⟨Nat.le_of_ble_eq_true rfl, Nat.le_of_ble_eq_true rfl⟩) 0 rfl rfl rfl hl.1 rfl (lv_room (Nat.le_of_ble_eq_true rfl)) d_Mdl_add_95 (fun S113 H locs e114 hP hS => ?_)
          refine lv_aload_n hx hb d_Mdl_add_98 rfl (lv_at hl 4 rfl) ?_
          refine lv_aload_n hx hb d_Mdl_add_99 rfl (lv_at hl 4 rfl) ?_
          refine lv_iload hx hb d_Mdl_add_100 (lv_at hl 1 rfl) ?_
          refine lv_iload_n hx hb d_Mdl_add_102 rfl (lv_at hl 3 rfl) ?_
          refine kv_vs (rest := [.ref (a 0)]) X hP hS (c_Mdl_result l D cB cI a bz ha S113 (((f_Mdl_accumulator S) + x1) + (1 : Int32)) (f_Mdl_is S (32 : Int32))) (kw_Mdl_result hts q_749 ⟨Nat.le_of_ble_eq_true rfl, Nat.le_of_ble_eq_true rfl⟩) 0 rfl rfl rfl hl.1 rfl (lv_room (Nat.le_of_ble_eq_true rfl)) d_Mdl_add_103 (fun r115 S116 H locs e117 hP hS => ?_)
          refine kv_s (rest := []) X hP hS (c_Mdl_setAccumulator l D cB cI a bz ha S116 r115) (kw_Mdl_setAccumulator hts q_753 ⟨Nat.le_of_ble_eq_true rfl, Nat.le_of_ble_eq_true rfl⟩) 0 rfl rfl rfl hl.1 rfl (lv_room (Nat.le_of_ble_eq_true rfl)) d_Mdl_add_106 (fun S118 H locs e119 hP hS => ?_)
          exact rt_s X hr hk hP hS (by rw [f_Mdl_add, if_neg h1, if_neg h73, if_pos h109, bs_eq e111, if_pos h112, bs_eq e114, bn_eq e117, bs_eq e119]) d_Mdl_add_109
        ·
          refine lv_iconst (v := (1 : Int32)) hx hb d_Mdl_add_90 (by decide) ?_
          refine lv_goto (tgt := 95) hx hb d_Mdl_add_91 rfl ?_
          refine kv_s (rest := []) X hP hS (c_Mdl_flag l D cB cI a bz ha S110 (64 : Int32) (1 : Int32)) (kw_Mdl_flag hts q_682 ⟨Nat.le_of_ble_eq_true rfl, Nat.le_of_ble_eq_true rfl⟩) 0 rfl rfl rfl hl.1 rfl (lv_room (Nat.le_of_ble_eq_true rfl)) d_Mdl_add_95 (fun S120 H locs e121 hP hS => ?_)
          refine lv_aload_n hx hb d_Mdl_add_98 rfl (lv_at hl 4 rfl) ?_
          refine lv_aload_n hx hb d_Mdl_add_99 rfl (lv_at hl 4 rfl) ?_
          refine lv_iload hx hb d_Mdl_add_100 (lv_at hl 1 rfl) ?_
          refine lv_iload_n hx hb d_Mdl_add_102 rfl (lv_at hl 3 rfl) ?_
          refine kv_vs (rest := [.ref (a 0)]) X hP hS (c_Mdl_result l D cB cI a bz ha S120 (((f_Mdl_accumulator S) + x1) + (1 : Int32)) (f_Mdl_is S (32 : Int32))) (kw_Mdl_result hts q_749 ⟨Nat.le_of_ble_eq_true rfl, Nat.le_of_ble_eq_true rfl⟩) 0 rfl rfl rfl hl.1 rfl (lv_room (Nat.le_of_ble_eq_true rfl)) d_Mdl_add_103 (fun r122 S123 H locs e124 hP hS => ?_)
          refine kv_s (rest := []) X hP hS (c_Mdl_setAccumulator l D cB cI a bz ha S123 r122) (kw_Mdl_setAccumulator hts q_753 ⟨Nat.le_of_ble_eq_true rfl, Nat.le_of_ble_eq_true rfl⟩) 0 rfl rfl rfl hl.1 rfl (lv_room (Nat.le_of_ble_eq_true rfl)) d_Mdl_add_106 (fun S125 H locs e126 hP hS => ?_)
          exact rt_s X hr hk hP hS (by rw [f_Mdl_add, if_neg h1, if_neg h73, if_pos h109, bs_eq e111, if_neg h112, bs_eq e121, bn_eq e124, bs_eq e126]) d_Mdl_add_109
      ·
        refine lv_iconst (v := (1 : Int32)) hx hb d_Mdl_add_64 (by decide) ?_
        refine lv_goto (tgt := 69) hx hb d_Mdl_add_65 rfl ?_
        refine kv_s (rest := []) X hP hS (c_Mdl_flag l D cB cI a bz ha S (1 : Int32) (1 : Int32)) (kw_Mdl_flag hts q_682 ⟨Nat.le_of_ble_eq_true rfl, Nat.le_of_ble_eq_true rfl⟩) 0 rfl rfl rfl hl.1 rfl (lv_room (Nat.le_of_ble_eq_true rfl)) d_Mdl_add_69 (fun S127 H locs e128 hP hS => ?_)
        refine lv_aload_n hx hb d_Mdl_add_72 rfl (lv_at hl 4 rfl) ?_
        refine lv_bipush (v := (64 : Int32)) hx hb d_Mdl_add_73 (by decide) ?_
        refine lv_iload_n hx hb d_Mdl_add_75 rfl (lv_at hl 2 rfl) ?_
        refine lv_iload hx hb d_Mdl_add_76 (lv_at hl 1 rfl) ?_
        refine lv_ixor hx hb d_Mdl_add_78 ?_
        refine lv_iload_n hx hb d_Mdl_add_79 rfl (lv_at hl 5 rfl) ?_
        refine lv_iload hx hb d_Mdl_add_80 (lv_at hl 1 rfl) ?_
        refine lv_ixor hx hb d_Mdl_add_82 ?_
        refine lv_iand hx hb d_Mdl_add_83 ?_
        refine lv_iload hx hb d_Mdl_add_84 (lv_at hl 0 rfl) ?_
        refine lv_iand hx hb d_Mdl_add_86 ?_
        refine lv_if_eq (tgt := 94) hx hb d_Mdl_add_87 rfl (fun h129 => ?_) (fun h129 => ?_)
        ·
          refine lv_iconst (v := (0 : Int32)) hx hb d_Mdl_add_94 (by decide) ?_
          refine kv_s (rest := []) X hP hS (c_Mdl_flag l D cB cI a bz ha S127 (64 : Int32) (0 : Int32)) (kw_Mdl_flag hts q_682 ⟨Nat.le_of_ble_eq_true rfl, Nat.le_of_ble_eq_true rfl⟩) 0 rfl rfl rfl hl.1 rfl (lv_room (Nat.le_of_ble_eq_true rfl)) d_Mdl_add_95 (fun S130 H locs e131 hP hS => ?_)
          refine lv_aload_n hx hb d_Mdl_add_98 rfl (lv_at hl 4 rfl) ?_
          refine lv_aload_n hx hb d_Mdl_add_99 rfl (lv_at hl 4 rfl) ?_
          refine lv_iload hx hb d_Mdl_add_100 (lv_at hl 1 rfl) ?_
          refine lv_iload_n hx hb d_Mdl_add_102 rfl (lv_at hl 3 rfl) ?_
          refine kv_vs (rest := [.ref (a 0)]) X hP hS (c_Mdl_result l D cB cI a bz ha S130 (((f_Mdl_accumulator S) + x1) + (1 : Int32)) (f_Mdl_is S (32 : Int32))) (kw_Mdl_result hts q_749 ⟨Nat.le_of_ble_eq_true rfl, Nat.le_of_ble_eq_true rfl⟩) 0 rfl rfl rfl hl.1 rfl (lv_room (Nat.le_of_ble_eq_true rfl)) d_Mdl_add_103 (fun r132 S133 H locs e134 hP hS => ?_)
          refine kv_s (rest := []) X hP hS (c_Mdl_setAccumulator l D cB cI a bz ha S133 r132) (kw_Mdl_setAccumulator hts q_753 ⟨Nat.le_of_ble_eq_true rfl, Nat.le_of_ble_eq_true rfl⟩) 0 rfl rfl rfl hl.1 rfl (lv_room (Nat.le_of_ble_eq_true rfl)) d_Mdl_add_106 (fun S135 H locs e136 hP hS => ?_)
          exact rt_s X hr hk hP hS (by rw [f_Mdl_add, if_neg h1, if_neg h73, if_neg h109, bs_eq e128, if_pos h129, bs_eq e131, bn_eq e134, bs_eq e136]) d_Mdl_add_109
        ·
          refine lv_iconst (v := (1 : Int32)) hx hb d_Mdl_add_90 (by decide) ?_
          refine lv_goto (tgt := 95) hx hb d_Mdl_add_91 rfl ?_
          refine kv_s (rest := []) X hP hS (c_Mdl_flag l D cB cI a bz ha S127 (64 : Int32) (1 : Int32)) (kw_Mdl_flag hts q_682 ⟨Nat.le_of_ble_eq_true rfl, Nat.le_of_ble_eq_true rfl⟩) 0 rfl rfl rfl hl.1 rfl (lv_room (Nat.le_of_ble_eq_true rfl)) d_Mdl_add_95 (fun S137 H locs e138 hP hS => ?_)
          refine lv_aload_n hx hb d_Mdl_add_98 rfl (lv_at hl 4 rfl) ?_
          refine lv_aload_n hx hb d_Mdl_add_99 rfl (lv_at hl 4 rfl) ?_
          refine lv_iload hx hb d_Mdl_add_100 (lv_at hl 1 rfl) ?_
          refine lv_iload_n hx hb d_Mdl_add_102 rfl (lv_at hl 3 rfl) ?_
          refine kv_vs (rest := [.ref (a 0)]) X hP hS (c_Mdl_result l D cB cI a bz ha S137 (((f_Mdl_accumulator S) + x1) + (1 : Int32)) (f_Mdl_is S (32 : Int32))) (kw_Mdl_result hts q_749 ⟨Nat.le_of_ble_eq_true rfl, Nat.le_of_ble_eq_true rfl⟩) 0 rfl rfl rfl hl.1 rfl (lv_room (Nat.le_of_ble_eq_true rfl)) d_Mdl_add_103 (fun r139 S140 H locs e141 hP hS => ?_)
          refine kv_s (rest := []) X hP hS (c_Mdl_setAccumulator l D cB cI a bz ha S140 r139) (kw_Mdl_setAccumulator hts q_753 ⟨Nat.le_of_ble_eq_true rfl, Nat.le_of_ble_eq_true rfl⟩) 0 rfl rfl rfl hl.1 rfl (lv_room (Nat.le_of_ble_eq_true rfl)) d_Mdl_add_106 (fun S142 H locs e143 hP hS => ?_)
          exact rt_s X hr hk hP hS (by rw [f_Mdl_add, if_neg h1, if_neg h73, if_neg h109, bs_eq e128, if_neg h129, bs_eq e138, bn_eq e141, bs_eq e143]) d_Mdl_add_109
set_option maxHeartbeats 4000000 in
set_option maxRecDepth 100000 in
theorem c_Mdl_arithmetic (l : Launch) (D : va_G) (cB cI : ClassId) (a : Nat → Nat) (bz : Nat) (ha : ap a 3) (S : Sc) (x1 : Int32) : MI l y_Mdl_arithmetic b_Mdl_arithmetic 8 (some .boolean) rm_Mdl_arithmetic [.ref (a 0), .int x1] D cB cI (wdT cI a) (ow a 3) bz S (f_Mdl_arithmetic S x1) := by
  refine met_in R_Mdl (by decide) rfl (Nat.le_of_ble_eq_true rfl) (wdT_D ha cI) ?_
  intro p e s m below meth c ls X hr hk hl hP hS
  have hx := X.1.1
  have hb := X.1.2.1
  have hown := X.1.2.2.2.1
  have hts := X.1.2.2.2.2
  have hl : lv_has ls 8 [(0, .ref (a 0)), (1, .int x1)] := hl
  refine lv_iload_n hx hb d_Mdl_arithmetic_0 rfl (lv_at hl 1 rfl) ?_
  refine lv_iconst (v := (5 : Int32)) hx hb d_Mdl_arithmetic_1 (by decide) ?_
  refine lv_ishr hx hb d_Mdl_arithmetic_2 ?_
  refine lv_istore_n hx hb d_Mdl_arithmetic_3 rfl hl (Nat.le_of_ble_eq_true rfl) rfl (fun ls hl => ?_)
  have hl : lv_has ls 8 [(2, .int ((x1 >>> ((5 : Int32) &&& 31)))), (0, .ref (a 0)), (1, .int (x1))] := hl
  refine lv_iload_n hx hb d_Mdl_arithmetic_4 rfl (lv_at hl 2 rfl) ?_
  refine lv_bipush (v := (31 : Int32)) hx hb d_Mdl_arithmetic_5 (by decide) ?_
  refine lv_iand hx hb d_Mdl_arithmetic_7 ?_
  refine lv_istore_n hx hb d_Mdl_arithmetic_8 rfl hl (Nat.le_of_ble_eq_true rfl) rfl (fun ls hl => ?_)
  have hl : lv_has ls 8 [(3, .int ((x1 &&& (31 : Int32)))), (2, .int ((x1 >>> ((5 : Int32) &&& 31)))), (0, .ref (a 0)), (1, .int (x1))] := hl
  refine lv_aload_n hx hb d_Mdl_arithmetic_9 rfl (lv_at hl 2 rfl) ?_
  refine lv_bipush (v := (32 : Int32)) hx hb d_Mdl_arithmetic_10 (by decide) ?_
  refine kv_v (rest := []) X hP hS (c_Mdl_is l D cB cI a bz ha S (32 : Int32)) (kw_Mdl_is hts q_635 ⟨Nat.le_of_ble_eq_true rfl, Nat.le_of_ble_eq_true rfl⟩) 0 rfl rfl rfl hl.1 rfl (lv_room (Nat.le_of_ble_eq_true rfl)) d_Mdl_arithmetic_12 (fun H locs hP hS => ?_)
  refine lv_istore hx hb d_Mdl_arithmetic_15 hl (Nat.le_of_ble_eq_true rfl) rfl (fun ls hl => ?_)
  have hl : lv_has ls 8 [(4, .int ((f_Mdl_is S (32 : Int32)))), (3, .int ((x1 &&& (31 : Int32)))), (2, .int ((x1 >>> ((5 : Int32) &&& 31)))), (0, .ref (a 0)), (1, .int (x1))] := hl
  refine lv_iload_n hx hb d_Mdl_arithmetic_17 rfl (lv_at hl 1 rfl) ?_
  refine lv_bipush (v := (9 : Int32)) hx hb d_Mdl_arithmetic_18 (by decide) ?_
  refine lv_icmp_ne (tgt := 27) hx hb d_Mdl_arithmetic_20 rfl (fun h1 => ?_) (fun h1 => ?_)
  ·
    refine lv_iconst (v := (0 : Int32)) hx hb d_Mdl_arithmetic_27 (by decide) ?_
    refine lv_istore hx hb d_Mdl_arithmetic_28 hl (Nat.le_of_ble_eq_true rfl) rfl (fun ls hl => ?_)
    have hl : lv_has ls 8 [(5, .int ((0 : Int32))), (4, .int ((f_Mdl_is S (32 : Int32)))), (3, .int ((x1 &&& (31 : Int32)))), (2, .int ((x1 >>> ((5 : Int32) &&& 31)))), (0, .ref (a 0)), (1, .int (x1))] := hl
    refine lv_iload hx hb d_Mdl_arithmetic_30 (lv_at hl 0 rfl) ?_
    refine lv_if_eq (tgt := 40) hx hb d_Mdl_arithmetic_32 rfl (fun _ => ?_) (fun h => absurd (by decide) h)
    refine lv_iload hx hb d_Mdl_arithmetic_40 (lv_at hl 0 rfl) ?_
    refine lv_if_ne (tgt := 55) hx hb d_Mdl_arithmetic_42 rfl (fun h => absurd (by decide) h) (fun _ => ?_)
    refine lv_aload_n hx hb d_Mdl_arithmetic_45 rfl (lv_at hl 4 rfl) ?_
    refine lv_iload_n hx hb d_Mdl_arithmetic_46 rfl (lv_at hl 2 rfl) ?_
    refine kv_vs (rest := []) X hP hS (c_Mdl_find l D cB cI a bz ha S (x1 &&& (31 : Int32))) (kw_Mdl_find hts q_708 ⟨Nat.le_of_ble_eq_true rfl, Nat.le_of_ble_eq_true rfl⟩) 0 rfl rfl rfl hl.1 rfl (lv_room (Nat.le_of_ble_eq_true rfl)) d_Mdl_arithmetic_47 (fun r2 S3 H locs e4 hP hS => ?_)
    refine lv_if_ne (tgt := 55) hx hb d_Mdl_arithmetic_50 rfl (fun h5 => ?_) (fun h5 => ?_)
    ·
      refine lv_iload_n hx hb d_Mdl_arithmetic_55 rfl (lv_at hl 3 rfl) ?_
      refine lv_iconst (v := (4 : Int32)) hx hb d_Mdl_arithmetic_56 (by decide) ?_
      refine lv_icmp_ne (tgt := 72) hx hb d_Mdl_arithmetic_57 rfl (fun h6 => ?_) (fun h6 => ?_)
      ·
        refine lv_iload hx hb d_Mdl_arithmetic_72 (lv_at hl 0 rfl) ?_
        refine lv_if_eq (tgt := 86) hx hb d_Mdl_arithmetic_74 rfl (fun _ => ?_) (fun h => absurd (by decide) h)
        refine lv_aload_n hx hb d_Mdl_arithmetic_86 rfl (lv_at hl 4 rfl) ?_
        refine lv_iload hx hb d_Mdl_arithmetic_87 (lv_at hl 1 rfl) ?_
        refine kv_vs (rest := []) X hP hS (c_Mdl_load l D cB cI a bz ha S3 (f_Mdl_is S (32 : Int32))) (kw_Mdl_load hts q_740 ⟨Nat.le_of_ble_eq_true rfl, Nat.le_of_ble_eq_true rfl⟩) 0 rfl rfl rfl hl.1 rfl (lv_room (Nat.le_of_ble_eq_true rfl)) d_Mdl_arithmetic_89 (fun r7 S8 H locs e9 hP hS => ?_)
        refine lv_istore hx hb d_Mdl_arithmetic_92 hl (Nat.le_of_ble_eq_true rfl) rfl (fun ls hl => ?_)
        have hl : lv_has ls 8 [(6, .int (r7)), (5, .int ((0 : Int32))), (4, .int ((f_Mdl_is S (32 : Int32)))), (3, .int ((x1 &&& (31 : Int32)))), (2, .int ((x1 >>> ((5 : Int32) &&& 31)))), (0, .ref (a 0)), (1, .int (x1))] := hl
        refine lv_iload_n hx hb d_Mdl_arithmetic_94 rfl (lv_at hl 4 rfl) ?_
        refine lv_iconst (v := (3 : Int32)) hx hb d_Mdl_arithmetic_95 (by decide) ?_
        refine lv_icmp_ne (tgt := 108) hx hb d_Mdl_arithmetic_96 rfl (fun h10 => ?_) (fun h10 => ?_)
        ·
          refine lv_iload_n hx hb d_Mdl_arithmetic_108 rfl (lv_at hl 4 rfl) ?_
          refine lv_bipush (v := (7 : Int32)) hx hb d_Mdl_arithmetic_109 (by decide) ?_
          refine lv_icmp_ne (tgt := 131) hx hb d_Mdl_arithmetic_111 rfl (fun h11 => ?_) (fun h11 => ?_)
          ·
            refine lv_iload_n hx hb d_Mdl_arithmetic_131 rfl (lv_at hl 4 rfl) ?_
            refine lv_bipush (v := (6 : Int32)) hx hb d_Mdl_arithmetic_132 (by decide) ?_
            refine lv_icmp_ne (tgt := 152) hx hb d_Mdl_arithmetic_134 rfl (fun h12 => ?_) (fun h12 => ?_)
            ·
              refine lv_aload_n hx hb d_Mdl_arithmetic_152 rfl (lv_at hl 5 rfl) ?_
              refine kv_v (rest := []) X hP hS (c_Mdl_accumulator l D cB cI a bz ha S8) (kw_Mdl_accumulator hts q_728 ⟨Nat.le_of_ble_eq_true rfl, Nat.le_of_ble_eq_true rfl⟩) 0 rfl rfl rfl hl.1 rfl (lv_room (Nat.le_of_ble_eq_true rfl)) d_Mdl_arithmetic_153 (fun H locs hP hS => ?_)
              refine lv_istore hx hb d_Mdl_arithmetic_156 hl (Nat.le_of_ble_eq_true rfl) rfl (fun ls hl => ?_)
              have hl : lv_has ls 8 [(7, .int ((f_Mdl_accumulator S8))), (6, .int (r7)), (5, .int ((0 : Int32))), (4, .int ((f_Mdl_is S (32 : Int32)))), (3, .int ((x1 &&& (31 : Int32)))), (2, .int ((x1 >>> ((5 : Int32) &&& 31)))), (0, .ref (a 0)), (1, .int (x1))] := hl
              refine lv_aload_n hx hb d_Mdl_arithmetic_158 rfl (lv_at hl 6 rfl) ?_
              refine lv_aload_n hx hb d_Mdl_arithmetic_159 rfl (lv_at hl 6 rfl) ?_
              refine lv_iload_n hx hb d_Mdl_arithmetic_160 rfl (lv_at hl 5 rfl) ?_
              refine lv_if_ne (tgt := 172) hx hb d_Mdl_arithmetic_161 rfl (fun h13 => ?_) (fun h13 => ?_)
              ·
                refine lv_iload_n hx hb d_Mdl_arithmetic_172 rfl (lv_at hl 5 rfl) ?_
                refine lv_iconst (v := (1 : Int32)) hx hb d_Mdl_arithmetic_173 (by decide) ?_
                refine lv_icmp_ne (tgt := 185) hx hb d_Mdl_arithmetic_174 rfl (fun h14 => ?_) (fun h14 => ?_)
                ·
                  refine lv_iload_n hx hb d_Mdl_arithmetic_185 rfl (lv_at hl 5 rfl) ?_
                  refine lv_iconst (v := (2 : Int32)) hx hb d_Mdl_arithmetic_186 (by decide) ?_
                  refine lv_icmp_ne (tgt := 198) hx hb d_Mdl_arithmetic_187 rfl (fun h15 => ?_) (fun h15 => ?_)
                  ·
                    refine lv_iload hx hb d_Mdl_arithmetic_198 (lv_at hl 1 rfl) ?_
                    refine lv_iload hx hb d_Mdl_arithmetic_200 (lv_at hl 3 rfl) ?_
                    refine kv_vs (rest := [.ref (a 0)]) X hP hS (c_Mdl_result l D cB cI a bz ha S8 r7 (f_Mdl_is S (32 : Int32))) (kw_Mdl_result hts q_749 ⟨Nat.le_of_ble_eq_true rfl, Nat.le_of_ble_eq_true rfl⟩) 0 rfl rfl rfl hl.1 rfl (lv_room (Nat.le_of_ble_eq_true rfl)) d_Mdl_arithmetic_202 (fun r16 S17 H locs e18 hP hS => ?_)
                    refine kv_s (rest := []) X hP hS (c_Mdl_setAccumulator l D cB cI a bz ha S17 r16) (kw_Mdl_setAccumulator hts q_753 ⟨Nat.le_of_ble_eq_true rfl, Nat.le_of_ble_eq_true rfl⟩) 0 rfl rfl rfl hl.1 rfl (lv_room (Nat.le_of_ble_eq_true rfl)) d_Mdl_arithmetic_205 (fun S19 H locs e20 hP hS => ?_)
                    refine lv_iconst (v := (1 : Int32)) hx hb d_Mdl_arithmetic_208 (by decide) ?_
                    exact rt_z X hr hk hP hS (by decide) (by rw [f_Mdl_arithmetic, if_neg h1, bn_eq e4, if_neg h5, if_neg h6, bn_eq e9, if_neg h10, if_neg h11, if_neg h12, if_neg h13, if_neg h14, if_neg h15, bn_eq e18, bs_eq e20]) d_Mdl_arithmetic_209
                  ·
                    refine lv_iload hx hb d_Mdl_arithmetic_190 (lv_at hl 0 rfl) ?_
                    refine lv_iload hx hb d_Mdl_arithmetic_192 (lv_at hl 1 rfl) ?_
                    refine lv_ixor hx hb d_Mdl_arithmetic_194 ?_
                    refine lv_goto (tgt := 200) hx hb d_Mdl_arithmetic_195 rfl ?_
                    refine lv_iload hx hb d_Mdl_arithmetic_200 (lv_at hl 3 rfl) ?_
                    refine kv_vs (rest := [.ref (a 0)]) X hP hS (c_Mdl_result l D cB cI a bz ha S8 ((f_Mdl_accumulator S8) ^^^ r7) (f_Mdl_is S (32 : Int32))) (kw_Mdl_result hts q_749 ⟨Nat.le_of_ble_eq_true rfl, Nat.le_of_ble_eq_true rfl⟩) 0 rfl rfl rfl hl.1 rfl (lv_room (Nat.le_of_ble_eq_true rfl)) d_Mdl_arithmetic_202 (fun r21 S22 H locs e23 hP hS => ?_)
                    refine kv_s (rest := []) X hP hS (c_Mdl_setAccumulator l D cB cI a bz ha S22 r21) (kw_Mdl_setAccumulator hts q_753 ⟨Nat.le_of_ble_eq_true rfl, Nat.le_of_ble_eq_true rfl⟩) 0 rfl rfl rfl hl.1 rfl (lv_room (Nat.le_of_ble_eq_true rfl)) d_Mdl_arithmetic_205 (fun S24 H locs e25 hP hS => ?_)
                    refine lv_iconst (v := (1 : Int32)) hx hb d_Mdl_arithmetic_208 (by decide) ?_
                    exact rt_z X hr hk hP hS (by decide) (by rw [f_Mdl_arithmetic, if_neg h1, bn_eq e4, if_neg h5, if_neg h6, bn_eq e9, if_neg h10, if_neg h11, if_neg h12, if_neg h13, if_neg h14, if_pos h15, bn_eq e23, bs_eq e25]) d_Mdl_arithmetic_209
                ·
                  refine lv_iload hx hb d_Mdl_arithmetic_177 (lv_at hl 0 rfl) ?_
                  refine lv_iload hx hb d_Mdl_arithmetic_179 (lv_at hl 1 rfl) ?_
                  refine lv_iand hx hb d_Mdl_arithmetic_181 ?_
                  refine lv_goto (tgt := 200) hx hb d_Mdl_arithmetic_182 rfl ?_
                  refine lv_iload hx hb d_Mdl_arithmetic_200 (lv_at hl 3 rfl) ?_
                  refine kv_vs (rest := [.ref (a 0)]) X hP hS (c_Mdl_result l D cB cI a bz ha S8 ((f_Mdl_accumulator S8) &&& r7) (f_Mdl_is S (32 : Int32))) (kw_Mdl_result hts q_749 ⟨Nat.le_of_ble_eq_true rfl, Nat.le_of_ble_eq_true rfl⟩) 0 rfl rfl rfl hl.1 rfl (lv_room (Nat.le_of_ble_eq_true rfl)) d_Mdl_arithmetic_202 (fun r26 S27 H locs e28 hP hS => ?_)
                  refine kv_s (rest := []) X hP hS (c_Mdl_setAccumulator l D cB cI a bz ha S27 r26) (kw_Mdl_setAccumulator hts q_753 ⟨Nat.le_of_ble_eq_true rfl, Nat.le_of_ble_eq_true rfl⟩) 0 rfl rfl rfl hl.1 rfl (lv_room (Nat.le_of_ble_eq_true rfl)) d_Mdl_arithmetic_205 (fun S29 H locs e30 hP hS => ?_)
                  refine lv_iconst (v := (1 : Int32)) hx hb d_Mdl_arithmetic_208 (by decide) ?_
                  exact rt_z X hr hk hP hS (by decide) (by rw [f_Mdl_arithmetic, if_neg h1, bn_eq e4, if_neg h5, if_neg h6, bn_eq e9, if_neg h10, if_neg h11, if_neg h12, if_neg h13, if_pos h14, bn_eq e28, bs_eq e30]) d_Mdl_arithmetic_209
              ·
                refine lv_iload hx hb d_Mdl_arithmetic_164 (lv_at hl 0 rfl) ?_
                refine lv_iload hx hb d_Mdl_arithmetic_166 (lv_at hl 1 rfl) ?_
                refine lv_ior hx hb d_Mdl_arithmetic_168 ?_
                refine lv_goto (tgt := 200) hx hb d_Mdl_arithmetic_169 rfl ?_
                refine lv_iload hx hb d_Mdl_arithmetic_200 (lv_at hl 3 rfl) ?_
                refine kv_vs (rest := [.ref (a 0)]) X hP hS (c_Mdl_result l D cB cI a bz ha S8 ((f_Mdl_accumulator S8) ||| r7) (f_Mdl_is S (32 : Int32))) (kw_Mdl_result hts q_749 ⟨Nat.le_of_ble_eq_true rfl, Nat.le_of_ble_eq_true rfl⟩) 0 rfl rfl rfl hl.1 rfl (lv_room (Nat.le_of_ble_eq_true rfl)) d_Mdl_arithmetic_202 (fun r31 S32 H locs e33 hP hS => ?_)
                refine kv_s (rest := []) X hP hS (c_Mdl_setAccumulator l D cB cI a bz ha S32 r31) (kw_Mdl_setAccumulator hts q_753 ⟨Nat.le_of_ble_eq_true rfl, Nat.le_of_ble_eq_true rfl⟩) 0 rfl rfl rfl hl.1 rfl (lv_room (Nat.le_of_ble_eq_true rfl)) d_Mdl_arithmetic_205 (fun S34 H locs e35 hP hS => ?_)
                refine lv_iconst (v := (1 : Int32)) hx hb d_Mdl_arithmetic_208 (by decide) ?_
                exact rt_z X hr hk hP hS (by decide) (by rw [f_Mdl_arithmetic, if_neg h1, bn_eq e4, if_neg h5, if_neg h6, bn_eq e9, if_neg h10, if_neg h11, if_neg h12, if_pos h13, bn_eq e33, bs_eq e35]) d_Mdl_arithmetic_209
            ·
              refine lv_aload_n hx hb d_Mdl_arithmetic_137 rfl (lv_at hl 5 rfl) ?_
              refine lv_aload_n hx hb d_Mdl_arithmetic_138 rfl (lv_at hl 5 rfl) ?_
              refine kv_v (rest := [.ref (a 0)]) X hP hS (c_Mdl_accumulator l D cB cI a bz ha S8) (kw_Mdl_accumulator hts q_728 ⟨Nat.le_of_ble_eq_true rfl, Nat.le_of_ble_eq_true rfl⟩) 0 rfl rfl rfl hl.1 rfl (lv_room (Nat.le_of_ble_eq_true rfl)) d_Mdl_arithmetic_139 (fun H locs hP hS => ?_)
              refine lv_iload hx hb d_Mdl_arithmetic_142 (lv_at hl 0 rfl) ?_
              refine lv_iload hx hb d_Mdl_arithmetic_144 (lv_at hl 2 rfl) ?_
              refine kv_s (rest := []) X hP hS (c_Mdl_compare l D cB cI a bz ha S8 (f_Mdl_accumulator S8) r7 (f_Mdl_is S (32 : Int32))) (kw_Mdl_compare hts q_758 ⟨Nat.le_of_ble_eq_true rfl, Nat.le_of_ble_eq_true rfl⟩) 0 rfl rfl rfl hl.1 rfl (lv_room (Nat.le_of_ble_eq_true rfl)) d_Mdl_arithmetic_146 (fun S36 H locs e37 hP hS => ?_)
              refine lv_goto (tgt := 208) hx hb d_Mdl_arithmetic_149 rfl ?_
              refine lv_iconst (v := (1 : Int32)) hx hb d_Mdl_arithmetic_208 (by decide) ?_
              exact rt_z X hr hk hP hS (by decide) (by rw [f_Mdl_arithmetic, if_neg h1, bn_eq e4, if_neg h5, if_neg h6, bn_eq e9, if_neg h10, if_neg h11, if_pos h12, bs_eq e37]) d_Mdl_arithmetic_209
          ·
            refine lv_aload_n hx hb d_Mdl_arithmetic_114 rfl (lv_at hl 5 rfl) ?_
            refine lv_aload_n hx hb d_Mdl_arithmetic_115 rfl (lv_at hl 5 rfl) ?_
            refine lv_iload hx hb d_Mdl_arithmetic_116 (lv_at hl 0 rfl) ?_
            refine lv_iconst (v := (-1 : Int32)) hx hb d_Mdl_arithmetic_118 (by decide) ?_
            refine lv_ixor hx hb d_Mdl_arithmetic_119 ?_
            refine lv_iload hx hb d_Mdl_arithmetic_120 (lv_at hl 2 rfl) ?_
            refine kv_v (rest := [.ref (a 0)]) X hP hS (c_Mdl_cut l D cB cI a bz ha S8 (r7 ^^^ (-1 : Int32)) (f_Mdl_is S (32 : Int32))) (kw_Mdl_cut hts q_639 ⟨Nat.le_of_ble_eq_true rfl, Nat.le_of_ble_eq_true rfl⟩) 0 rfl rfl rfl hl.1 rfl (lv_room (Nat.le_of_ble_eq_true rfl)) d_Mdl_arithmetic_122 (fun H locs hP hS => ?_)
            refine kv_s (rest := []) X hP hS (c_Mdl_add l D cB cI a bz ha S8 (f_Mdl_cut (r7 ^^^ (-1 : Int32)) (f_Mdl_is S (32 : Int32)))) (kw_Mdl_add hts q_744 ⟨Nat.le_of_ble_eq_true rfl, Nat.le_of_ble_eq_true rfl⟩) 0 rfl rfl rfl hl.1 rfl (lv_room (Nat.le_of_ble_eq_true rfl)) d_Mdl_arithmetic_125 (fun S38 H locs e39 hP hS => ?_)
            refine lv_goto (tgt := 208) hx hb d_Mdl_arithmetic_128 rfl ?_
            refine lv_iconst (v := (1 : Int32)) hx hb d_Mdl_arithmetic_208 (by decide) ?_
            exact rt_z X hr hk hP hS (by decide) (by rw [f_Mdl_arithmetic, if_neg h1, bn_eq e4, if_neg h5, if_neg h6, bn_eq e9, if_neg h10, if_pos h11, bs_eq e39]) d_Mdl_arithmetic_209
        ·
          refine lv_aload_n hx hb d_Mdl_arithmetic_99 rfl (lv_at hl 5 rfl) ?_
          refine lv_iload hx hb d_Mdl_arithmetic_100 (lv_at hl 0 rfl) ?_
          refine kv_s (rest := []) X hP hS (c_Mdl_add l D cB cI a bz ha S8 r7) (kw_Mdl_add hts q_744 ⟨Nat.le_of_ble_eq_true rfl, Nat.le_of_ble_eq_true rfl⟩) 0 rfl rfl rfl hl.1 rfl (lv_room (Nat.le_of_ble_eq_true rfl)) d_Mdl_arithmetic_102 (fun S40 H locs e41 hP hS => ?_)
          refine lv_goto (tgt := 208) hx hb d_Mdl_arithmetic_105 rfl ?_
          refine lv_iconst (v := (1 : Int32)) hx hb d_Mdl_arithmetic_208 (by decide) ?_
          exact rt_z X hr hk hP hS (by decide) (by rw [f_Mdl_arithmetic, if_neg h1, bn_eq e4, if_neg h5, if_neg h6, bn_eq e9, if_pos h10, bs_eq e41]) d_Mdl_arithmetic_209
      ·
        refine lv_aload_n hx hb d_Mdl_arithmetic_60 rfl (lv_at hl 4 rfl) ?_
        refine lv_aload_n hx hb d_Mdl_arithmetic_61 rfl (lv_at hl 4 rfl) ?_
        refine kv_v (rest := [.ref (a 0)]) X hP hS (c_Mdl_accumulator l D cB cI a bz ha S3) (kw_Mdl_accumulator hts q_728 ⟨Nat.le_of_ble_eq_true rfl, Nat.le_of_ble_eq_true rfl⟩) 0 rfl rfl rfl hl.1 rfl (lv_room (Nat.le_of_ble_eq_true rfl)) d_Mdl_arithmetic_62 (fun H locs hP hS => ?_)
        refine lv_iload hx hb d_Mdl_arithmetic_65 (lv_at hl 1 rfl) ?_
        refine kv_s (rest := []) X hP hS (c_Mdl_store l D cB cI a bz ha S3 (f_Mdl_accumulator S3) (f_Mdl_is S (32 : Int32))) (kw_Mdl_store hts q_732 ⟨Nat.le_of_ble_eq_true rfl, Nat.le_of_ble_eq_true rfl⟩) 0 rfl rfl rfl hl.1 rfl (lv_room (Nat.le_of_ble_eq_true rfl)) d_Mdl_arithmetic_67 (fun S42 H locs e43 hP hS => ?_)
        refine lv_iconst (v := (1 : Int32)) hx hb d_Mdl_arithmetic_70 (by decide) ?_
        exact rt_z X hr hk hP hS (by decide) (by rw [f_Mdl_arithmetic, if_neg h1, bn_eq e4, if_neg h5, if_pos h6, bs_eq e43]) d_Mdl_arithmetic_71
    ·
      refine lv_iconst (v := (0 : Int32)) hx hb d_Mdl_arithmetic_53 (by decide) ?_
      exact rt_z X hr hk hP hS (by decide) (by rw [f_Mdl_arithmetic, if_neg h1, bn_eq e4, if_pos h5]) d_Mdl_arithmetic_54
  ·
    refine lv_iconst (v := (1 : Int32)) hx hb d_Mdl_arithmetic_23 (by decide) ?_
    refine lv_goto (tgt := 28) hx hb d_Mdl_arithmetic_24 rfl ?_
    refine lv_istore hx hb d_Mdl_arithmetic_28 hl (Nat.le_of_ble_eq_true rfl) rfl (fun ls hl => ?_)
    have hl : lv_has ls 8 [(5, .int ((1 : Int32))), (4, .int ((f_Mdl_is S (32 : Int32)))), (3, .int ((x1 &&& (31 : Int32)))), (2, .int ((x1 >>> ((5 : Int32) &&& 31)))), (0, .ref (a 0)), (1, .int (x1))] := hl
    refine lv_iload hx hb d_Mdl_arithmetic_30 (lv_at hl 0 rfl) ?_
    refine lv_if_eq (tgt := 40) hx hb d_Mdl_arithmetic_32 rfl (fun h => absurd h (by decide)) (fun _ => ?_)
    refine lv_iload_n hx hb d_Mdl_arithmetic_35 rfl (lv_at hl 3 rfl) ?_
    refine lv_iconst (v := (4 : Int32)) hx hb d_Mdl_arithmetic_36 (by decide) ?_
    refine lv_icmp_eq (tgt := 53) hx hb d_Mdl_arithmetic_37 rfl (fun h44 => ?_) (fun h44 => ?_)
    ·
      refine lv_iconst (v := (0 : Int32)) hx hb d_Mdl_arithmetic_53 (by decide) ?_
      exact rt_z X hr hk hP hS (by decide) (by rw [f_Mdl_arithmetic, if_pos h1, if_pos h44]) d_Mdl_arithmetic_54
    ·
      refine lv_iload hx hb d_Mdl_arithmetic_40 (lv_at hl 0 rfl) ?_
      refine lv_if_ne (tgt := 55) hx hb d_Mdl_arithmetic_42 rfl (fun _ => ?_) (fun h => absurd h (by decide))
      refine lv_iload_n hx hb d_Mdl_arithmetic_55 rfl (lv_at hl 3 rfl) ?_
      refine lv_iconst (v := (4 : Int32)) hx hb d_Mdl_arithmetic_56 (by decide) ?_
      refine lv_icmp_ne (tgt := 72) hx hb d_Mdl_arithmetic_57 rfl (fun _ => ?_) (fun h => absurd h h44)
      refine lv_iload hx hb d_Mdl_arithmetic_72 (lv_at hl 0 rfl) ?_
      refine lv_if_eq (tgt := 86) hx hb d_Mdl_arithmetic_74 rfl (fun h => absurd h (by decide)) (fun _ => ?_)
      refine lv_aload_n hx hb d_Mdl_arithmetic_77 rfl (lv_at hl 4 rfl) ?_
      refine lv_iload hx hb d_Mdl_arithmetic_78 (lv_at hl 1 rfl) ?_
      refine kv_vs (rest := []) X hP hS (c_Mdl_immediate l D cB cI a bz ha S (f_Mdl_is S (32 : Int32))) (kw_Mdl_immediate hts q_736 ⟨Nat.le_of_ble_eq_true rfl, Nat.le_of_ble_eq_true rfl⟩) 0 rfl rfl rfl hl.1 rfl (lv_room (Nat.le_of_ble_eq_true rfl)) d_Mdl_arithmetic_80 (fun r45 S46 H locs e47 hP hS => ?_)
      refine lv_goto (tgt := 92) hx hb d_Mdl_arithmetic_83 rfl ?_
      refine lv_istore hx hb d_Mdl_arithmetic_92 hl (Nat.le_of_ble_eq_true rfl) rfl (fun ls hl => ?_)
      have hl : lv_has ls 8 [(6, .int (r45)), (5, .int ((1 : Int32))), (4, .int ((f_Mdl_is S (32 : Int32)))), (3, .int ((x1 &&& (31 : Int32)))), (2, .int ((x1 >>> ((5 : Int32) &&& 31)))), (0, .ref (a 0)), (1, .int (x1))] := hl
      refine lv_iload_n hx hb d_Mdl_arithmetic_94 rfl (lv_at hl 4 rfl) ?_
      refine lv_iconst (v := (3 : Int32)) hx hb d_Mdl_arithmetic_95 (by decide) ?_
      refine lv_icmp_ne (tgt := 108) hx hb d_Mdl_arithmetic_96 rfl (fun h48 => ?_) (fun h48 => ?_)
      ·
        refine lv_iload_n hx hb d_Mdl_arithmetic_108 rfl (lv_at hl 4 rfl) ?_
        refine lv_bipush (v := (7 : Int32)) hx hb d_Mdl_arithmetic_109 (by decide) ?_
        refine lv_icmp_ne (tgt := 131) hx hb d_Mdl_arithmetic_111 rfl (fun h49 => ?_) (fun h49 => ?_)
        ·
          refine lv_iload_n hx hb d_Mdl_arithmetic_131 rfl (lv_at hl 4 rfl) ?_
          refine lv_bipush (v := (6 : Int32)) hx hb d_Mdl_arithmetic_132 (by decide) ?_
          refine lv_icmp_ne (tgt := 152) hx hb d_Mdl_arithmetic_134 rfl (fun h50 => ?_) (fun h50 => ?_)
          ·
            refine lv_aload_n hx hb d_Mdl_arithmetic_152 rfl (lv_at hl 5 rfl) ?_
            refine kv_v (rest := []) X hP hS (c_Mdl_accumulator l D cB cI a bz ha S46) (kw_Mdl_accumulator hts q_728 ⟨Nat.le_of_ble_eq_true rfl, Nat.le_of_ble_eq_true rfl⟩) 0 rfl rfl rfl hl.1 rfl (lv_room (Nat.le_of_ble_eq_true rfl)) d_Mdl_arithmetic_153 (fun H locs hP hS => ?_)
            refine lv_istore hx hb d_Mdl_arithmetic_156 hl (Nat.le_of_ble_eq_true rfl) rfl (fun ls hl => ?_)
            have hl : lv_has ls 8 [(7, .int ((f_Mdl_accumulator S46))), (6, .int (r45)), (5, .int ((1 : Int32))), (4, .int ((f_Mdl_is S (32 : Int32)))), (3, .int ((x1 &&& (31 : Int32)))), (2, .int ((x1 >>> ((5 : Int32) &&& 31)))), (0, .ref (a 0)), (1, .int (x1))] := hl
            refine lv_aload_n hx hb d_Mdl_arithmetic_158 rfl (lv_at hl 6 rfl) ?_
            refine lv_aload_n hx hb d_Mdl_arithmetic_159 rfl (lv_at hl 6 rfl) ?_
            refine lv_iload_n hx hb d_Mdl_arithmetic_160 rfl (lv_at hl 5 rfl) ?_
            refine lv_if_ne (tgt := 172) hx hb d_Mdl_arithmetic_161 rfl (fun h51 => ?_) (fun h51 => ?_)
            ·
              refine lv_iload_n hx hb d_Mdl_arithmetic_172 rfl (lv_at hl 5 rfl) ?_
              refine lv_iconst (v := (1 : Int32)) hx hb d_Mdl_arithmetic_173 (by decide) ?_
              refine lv_icmp_ne (tgt := 185) hx hb d_Mdl_arithmetic_174 rfl (fun h52 => ?_) (fun h52 => ?_)
              ·
                refine lv_iload_n hx hb d_Mdl_arithmetic_185 rfl (lv_at hl 5 rfl) ?_
                refine lv_iconst (v := (2 : Int32)) hx hb d_Mdl_arithmetic_186 (by decide) ?_
                refine lv_icmp_ne (tgt := 198) hx hb d_Mdl_arithmetic_187 rfl (fun h53 => ?_) (fun h53 => ?_)
                ·
                  refine lv_iload hx hb d_Mdl_arithmetic_198 (lv_at hl 1 rfl) ?_
                  refine lv_iload hx hb d_Mdl_arithmetic_200 (lv_at hl 3 rfl) ?_
                  refine kv_vs (rest := [.ref (a 0)]) X hP hS (c_Mdl_result l D cB cI a bz ha S46 r45 (f_Mdl_is S (32 : Int32))) (kw_Mdl_result hts q_749 ⟨Nat.le_of_ble_eq_true rfl, Nat.le_of_ble_eq_true rfl⟩) 0 rfl rfl rfl hl.1 rfl (lv_room (Nat.le_of_ble_eq_true rfl)) d_Mdl_arithmetic_202 (fun r54 S55 H locs e56 hP hS => ?_)
                  refine kv_s (rest := []) X hP hS (c_Mdl_setAccumulator l D cB cI a bz ha S55 r54) (kw_Mdl_setAccumulator hts q_753 ⟨Nat.le_of_ble_eq_true rfl, Nat.le_of_ble_eq_true rfl⟩) 0 rfl rfl rfl hl.1 rfl (lv_room (Nat.le_of_ble_eq_true rfl)) d_Mdl_arithmetic_205 (fun S57 H locs e58 hP hS => ?_)
                  refine lv_iconst (v := (1 : Int32)) hx hb d_Mdl_arithmetic_208 (by decide) ?_
                  exact rt_z X hr hk hP hS (by decide) (by rw [f_Mdl_arithmetic, if_pos h1, if_neg h44, bn_eq e47, if_neg h48, if_neg h49, if_neg h50, if_neg h51, if_neg h52, if_neg h53, bn_eq e56, bs_eq e58]) d_Mdl_arithmetic_209
                ·
                  refine lv_iload hx hb d_Mdl_arithmetic_190 (lv_at hl 0 rfl) ?_
                  refine lv_iload hx hb d_Mdl_arithmetic_192 (lv_at hl 1 rfl) ?_
                  refine lv_ixor hx hb d_Mdl_arithmetic_194 ?_
                  refine lv_goto (tgt := 200) hx hb d_Mdl_arithmetic_195 rfl ?_
                  refine lv_iload hx hb d_Mdl_arithmetic_200 (lv_at hl 3 rfl) ?_
                  refine kv_vs (rest := [.ref (a 0)]) X hP hS (c_Mdl_result l D cB cI a bz ha S46 ((f_Mdl_accumulator S46) ^^^ r45) (f_Mdl_is S (32 : Int32))) (kw_Mdl_result hts q_749 ⟨Nat.le_of_ble_eq_true rfl, Nat.le_of_ble_eq_true rfl⟩) 0 rfl rfl rfl hl.1 rfl (lv_room (Nat.le_of_ble_eq_true rfl)) d_Mdl_arithmetic_202 (fun r59 S60 H locs e61 hP hS => ?_)
                  refine kv_s (rest := []) X hP hS (c_Mdl_setAccumulator l D cB cI a bz ha S60 r59) (kw_Mdl_setAccumulator hts q_753 ⟨Nat.le_of_ble_eq_true rfl, Nat.le_of_ble_eq_true rfl⟩) 0 rfl rfl rfl hl.1 rfl (lv_room (Nat.le_of_ble_eq_true rfl)) d_Mdl_arithmetic_205 (fun S62 H locs e63 hP hS => ?_)
                  refine lv_iconst (v := (1 : Int32)) hx hb d_Mdl_arithmetic_208 (by decide) ?_
                  exact rt_z X hr hk hP hS (by decide) (by rw [f_Mdl_arithmetic, if_pos h1, if_neg h44, bn_eq e47, if_neg h48, if_neg h49, if_neg h50, if_neg h51, if_neg h52, if_pos h53, bn_eq e61, bs_eq e63]) d_Mdl_arithmetic_209
              ·
                refine lv_iload hx hb d_Mdl_arithmetic_177 (lv_at hl 0 rfl) ?_
                refine lv_iload hx hb d_Mdl_arithmetic_179 (lv_at hl 1 rfl) ?_
                refine lv_iand hx hb d_Mdl_arithmetic_181 ?_
                refine lv_goto (tgt := 200) hx hb d_Mdl_arithmetic_182 rfl ?_
                refine lv_iload hx hb d_Mdl_arithmetic_200 (lv_at hl 3 rfl) ?_
                refine kv_vs (rest := [.ref (a 0)]) X hP hS (c_Mdl_result l D cB cI a bz ha S46 ((f_Mdl_accumulator S46) &&& r45) (f_Mdl_is S (32 : Int32))) (kw_Mdl_result hts q_749 ⟨Nat.le_of_ble_eq_true rfl, Nat.le_of_ble_eq_true rfl⟩) 0 rfl rfl rfl hl.1 rfl (lv_room (Nat.le_of_ble_eq_true rfl)) d_Mdl_arithmetic_202 (fun r64 S65 H locs e66 hP hS => ?_)
                refine kv_s (rest := []) X hP hS (c_Mdl_setAccumulator l D cB cI a bz ha S65 r64) (kw_Mdl_setAccumulator hts q_753 ⟨Nat.le_of_ble_eq_true rfl, Nat.le_of_ble_eq_true rfl⟩) 0 rfl rfl rfl hl.1 rfl (lv_room (Nat.le_of_ble_eq_true rfl)) d_Mdl_arithmetic_205 (fun S67 H locs e68 hP hS => ?_)
                refine lv_iconst (v := (1 : Int32)) hx hb d_Mdl_arithmetic_208 (by decide) ?_
                exact rt_z X hr hk hP hS (by decide) (by rw [f_Mdl_arithmetic, if_pos h1, if_neg h44, bn_eq e47, if_neg h48, if_neg h49, if_neg h50, if_neg h51, if_pos h52, bn_eq e66, bs_eq e68]) d_Mdl_arithmetic_209
            ·
              refine lv_iload hx hb d_Mdl_arithmetic_164 (lv_at hl 0 rfl) ?_
              refine lv_iload hx hb d_Mdl_arithmetic_166 (lv_at hl 1 rfl) ?_
              refine lv_ior hx hb d_Mdl_arithmetic_168 ?_
              refine lv_goto (tgt := 200) hx hb d_Mdl_arithmetic_169 rfl ?_
              refine lv_iload hx hb d_Mdl_arithmetic_200 (lv_at hl 3 rfl) ?_
              refine kv_vs (rest := [.ref (a 0)]) X hP hS (c_Mdl_result l D cB cI a bz ha S46 ((f_Mdl_accumulator S46) ||| r45) (f_Mdl_is S (32 : Int32))) (kw_Mdl_result hts q_749 ⟨Nat.le_of_ble_eq_true rfl, Nat.le_of_ble_eq_true rfl⟩) 0 rfl rfl rfl hl.1 rfl (lv_room (Nat.le_of_ble_eq_true rfl)) d_Mdl_arithmetic_202 (fun r69 S70 H locs e71 hP hS => ?_)
              refine kv_s (rest := []) X hP hS (c_Mdl_setAccumulator l D cB cI a bz ha S70 r69) (kw_Mdl_setAccumulator hts q_753 ⟨Nat.le_of_ble_eq_true rfl, Nat.le_of_ble_eq_true rfl⟩) 0 rfl rfl rfl hl.1 rfl (lv_room (Nat.le_of_ble_eq_true rfl)) d_Mdl_arithmetic_205 (fun S72 H locs e73 hP hS => ?_)
              refine lv_iconst (v := (1 : Int32)) hx hb d_Mdl_arithmetic_208 (by decide) ?_
              exact rt_z X hr hk hP hS (by decide) (by rw [f_Mdl_arithmetic, if_pos h1, if_neg h44, bn_eq e47, if_neg h48, if_neg h49, if_neg h50, if_pos h51, bn_eq e71, bs_eq e73]) d_Mdl_arithmetic_209
          ·
            refine lv_aload_n hx hb d_Mdl_arithmetic_137 rfl (lv_at hl 5 rfl) ?_
            refine lv_aload_n hx hb d_Mdl_arithmetic_138 rfl (lv_at hl 5 rfl) ?_
            refine kv_v (rest := [.ref (a 0)]) X hP hS (c_Mdl_accumulator l D cB cI a bz ha S46) (kw_Mdl_accumulator hts q_728 ⟨Nat.le_of_ble_eq_true rfl, Nat.le_of_ble_eq_true rfl⟩) 0 rfl rfl rfl hl.1 rfl (lv_room (Nat.le_of_ble_eq_true rfl)) d_Mdl_arithmetic_139 (fun H locs hP hS => ?_)
            refine lv_iload hx hb d_Mdl_arithmetic_142 (lv_at hl 0 rfl) ?_
            refine lv_iload hx hb d_Mdl_arithmetic_144 (lv_at hl 2 rfl) ?_
            refine kv_s (rest := []) X hP hS (c_Mdl_compare l D cB cI a bz ha S46 (f_Mdl_accumulator S46) r45 (f_Mdl_is S (32 : Int32))) (kw_Mdl_compare hts q_758 ⟨Nat.le_of_ble_eq_true rfl, Nat.le_of_ble_eq_true rfl⟩) 0 rfl rfl rfl hl.1 rfl (lv_room (Nat.le_of_ble_eq_true rfl)) d_Mdl_arithmetic_146 (fun S74 H locs e75 hP hS => ?_)
            refine lv_goto (tgt := 208) hx hb d_Mdl_arithmetic_149 rfl ?_
            refine lv_iconst (v := (1 : Int32)) hx hb d_Mdl_arithmetic_208 (by decide) ?_
            exact rt_z X hr hk hP hS (by decide) (by rw [f_Mdl_arithmetic, if_pos h1, if_neg h44, bn_eq e47, if_neg h48, if_neg h49, if_pos h50, bs_eq e75]) d_Mdl_arithmetic_209
        ·
          refine lv_aload_n hx hb d_Mdl_arithmetic_114 rfl (lv_at hl 5 rfl) ?_
          refine lv_aload_n hx hb d_Mdl_arithmetic_115 rfl (lv_at hl 5 rfl) ?_
          refine lv_iload hx hb d_Mdl_arithmetic_116 (lv_at hl 0 rfl) ?_
          refine lv_iconst (v := (-1 : Int32)) hx hb d_Mdl_arithmetic_118 (by decide) ?_
          refine lv_ixor hx hb d_Mdl_arithmetic_119 ?_
          refine lv_iload hx hb d_Mdl_arithmetic_120 (lv_at hl 2 rfl) ?_
          refine kv_v (rest := [.ref (a 0)]) X hP hS (c_Mdl_cut l D cB cI a bz ha S46 (r45 ^^^ (-1 : Int32)) (f_Mdl_is S (32 : Int32))) (kw_Mdl_cut hts q_639 ⟨Nat.le_of_ble_eq_true rfl, Nat.le_of_ble_eq_true rfl⟩) 0 rfl rfl rfl hl.1 rfl (lv_room (Nat.le_of_ble_eq_true rfl)) d_Mdl_arithmetic_122 (fun H locs hP hS => ?_)
          refine kv_s (rest := []) X hP hS (c_Mdl_add l D cB cI a bz ha S46 (f_Mdl_cut (r45 ^^^ (-1 : Int32)) (f_Mdl_is S (32 : Int32)))) (kw_Mdl_add hts q_744 ⟨Nat.le_of_ble_eq_true rfl, Nat.le_of_ble_eq_true rfl⟩) 0 rfl rfl rfl hl.1 rfl (lv_room (Nat.le_of_ble_eq_true rfl)) d_Mdl_arithmetic_125 (fun S76 H locs e77 hP hS => ?_)
          refine lv_goto (tgt := 208) hx hb d_Mdl_arithmetic_128 rfl ?_
          refine lv_iconst (v := (1 : Int32)) hx hb d_Mdl_arithmetic_208 (by decide) ?_
          exact rt_z X hr hk hP hS (by decide) (by rw [f_Mdl_arithmetic, if_pos h1, if_neg h44, bn_eq e47, if_neg h48, if_pos h49, bs_eq e77]) d_Mdl_arithmetic_209
      ·
        refine lv_aload_n hx hb d_Mdl_arithmetic_99 rfl (lv_at hl 5 rfl) ?_
        refine lv_iload hx hb d_Mdl_arithmetic_100 (lv_at hl 0 rfl) ?_
        refine kv_s (rest := []) X hP hS (c_Mdl_add l D cB cI a bz ha S46 r45) (kw_Mdl_add hts q_744 ⟨Nat.le_of_ble_eq_true rfl, Nat.le_of_ble_eq_true rfl⟩) 0 rfl rfl rfl hl.1 rfl (lv_room (Nat.le_of_ble_eq_true rfl)) d_Mdl_arithmetic_102 (fun S78 H locs e79 hP hS => ?_)
        refine lv_goto (tgt := 208) hx hb d_Mdl_arithmetic_105 rfl ?_
        refine lv_iconst (v := (1 : Int32)) hx hb d_Mdl_arithmetic_208 (by decide) ?_
        exact rt_z X hr hk hP hS (by decide) (by rw [f_Mdl_arithmetic, if_pos h1, if_neg h44, bn_eq e47, if_pos h48, bs_eq e79]) d_Mdl_arithmetic_209
set_option maxHeartbeats 4000000 in
set_option maxRecDepth 100000 in
theorem c_Mdl_changed (l : Launch) (D : va_G) (cB cI : ClassId) (a : Nat → Nat) (bz : Nat) (ha : ap a 3) (S : Sc) (x1 x2 x3 : Int32) : MI l y_Mdl_changed b_Mdl_changed 6 (some .int) rm_Mdl_changed [.ref (a 0), .int x1, .int x2, .int x3] D cB cI (wdT cI a) (ow a 3) bz S (f_Mdl_changed S x1 x2 x3) := by
  refine met_in R_Mdl (by decide) rfl (Nat.le_of_ble_eq_true rfl) (wdT_D ha cI) ?_
  intro p e s m below meth c ls X hr hk hl hP hS
  have hx := X.1.1
  have hb := X.1.2.1
  have hown := X.1.2.2.2.1
  have hts := X.1.2.2.2.2
  have hl : lv_has ls 6 [(0, .ref (a 0)), (1, .int x1), (2, .int x2), (3, .int x3)] := hl
  refine lv_iload_n hx hb d_Mdl_changed_0 rfl (lv_at hl 3 rfl) ?_
  refine lv_if_eq (tgt := 10) hx hb d_Mdl_changed_1 rfl (fun h1 => ?_) (fun h1 => ?_)
  ·
    refine lv_ldc (v := (32768 : Int32)) hx hb hown (hts _ q_748) d_Mdl_changed_10 ?_
    refine lv_istore hx hb d_Mdl_changed_12 hl (Nat.le_of_ble_eq_true rfl) rfl (fun ls hl => ?_)
    have hl : lv_has ls 6 [(4, .int ((32768 : Int32))), (0, .ref (a 0)), (1, .int (x1)), (2, .int (x2)), (3, .int (x3))] := hl
    refine lv_aload_n hx hb d_Mdl_changed_14 rfl (lv_at hl 1 rfl) ?_
    refine lv_iconst (v := (1 : Int32)) hx hb d_Mdl_changed_15 (by decide) ?_
    refine kv_v (rest := []) X hP hS (c_Mdl_is l D cB cI a bz ha S (1 : Int32)) (kw_Mdl_is hts q_635 ⟨Nat.le_of_ble_eq_true rfl, Nat.le_of_ble_eq_true rfl⟩) 0 rfl rfl rfl hl.1 rfl (lv_room (Nat.le_of_ble_eq_true rfl)) d_Mdl_changed_16 (fun H locs hP hS => ?_)
    refine lv_if_eq (tgt := 26) hx hb d_Mdl_changed_19 rfl (fun h2 => ?_) (fun h2 => ?_)
    ·
      refine lv_iconst (v := (0 : Int32)) hx hb d_Mdl_changed_26 (by decide) ?_
      refine lv_istore hx hb d_Mdl_changed_27 hl (Nat.le_of_ble_eq_true rfl) rfl (fun ls hl => ?_)
      have hl : lv_has ls 6 [(5, .int ((0 : Int32))), (4, .int ((32768 : Int32))), (0, .ref (a 0)), (1, .int (x1)), (2, .int (x2)), (3, .int (x3))] := hl
      refine lv_iload_n hx hb d_Mdl_changed_29 rfl (lv_at hl 3 rfl) ?_
      refine lv_iconst (v := (2 : Int32)) hx hb d_Mdl_changed_30 (by decide) ?_
      refine lv_icmp_ge (tgt := 53) hx hb d_Mdl_changed_31 rfl (fun h3 => ?_) (fun h3 => ?_)
      ·
        refine lv_iload_n hx hb d_Mdl_changed_53 rfl (lv_at hl 3 rfl) ?_
        refine lv_iconst (v := (4 : Int32)) hx hb d_Mdl_changed_54 (by decide) ?_
        refine lv_icmp_ge (tgt := 96) hx hb d_Mdl_changed_55 rfl (fun h4 => ?_) (fun h4 => ?_)
        ·
          refine lv_aload_n hx hb d_Mdl_changed_96 rfl (lv_at hl 2 rfl) ?_
          refine lv_iconst (v := (1 : Int32)) hx hb d_Mdl_changed_97 (by decide) ?_
          refine lv_iload_n hx hb d_Mdl_changed_98 rfl (lv_at hl 4 rfl) ?_
          refine lv_iconst (v := (1 : Int32)) hx hb d_Mdl_changed_99 (by decide) ?_
          refine lv_iand hx hb d_Mdl_changed_100 ?_
          refine lv_if_eq (tgt := 108) hx hb d_Mdl_changed_101 rfl (fun h5 => ?_) (fun h5 => ?_)
          ·
            refine lv_iconst (v := (0 : Int32)) hx hb d_Mdl_changed_108 (by decide) ?_
            refine kv_s (rest := []) X hP hS (c_Mdl_flag l D cB cI a bz ha S (1 : Int32) (0 : Int32)) (kw_Mdl_flag hts q_682 ⟨Nat.le_of_ble_eq_true rfl, Nat.le_of_ble_eq_true rfl⟩) 0 rfl rfl rfl hl.1 rfl (lv_room (Nat.le_of_ble_eq_true rfl)) d_Mdl_changed_109 (fun S6 H locs e7 hP hS => ?_)
            refine lv_aload_n hx hb d_Mdl_changed_112 rfl (lv_at hl 2 rfl) ?_
            refine lv_iload_n hx hb d_Mdl_changed_113 rfl (lv_at hl 4 rfl) ?_
            refine lv_iconst (v := (2 : Int32)) hx hb d_Mdl_changed_114 (by decide) ?_
            refine lv_idiv hx hb d_Mdl_changed_115 (by decide) ?_
            refine lv_iload_n hx hb d_Mdl_changed_116 rfl (lv_at hl 3 rfl) ?_
            refine lv_iconst (v := (5 : Int32)) hx hb d_Mdl_changed_117 (by decide) ?_
            refine lv_icmp_ne (tgt := 129) hx hb d_Mdl_changed_118 rfl (fun h8 => ?_) (fun h8 => ?_)
            ·
              refine lv_iconst (v := (0 : Int32)) hx hb d_Mdl_changed_129 (by decide) ?_
              refine lv_iadd hx hb d_Mdl_changed_130 ?_
              refine lv_iload_n hx hb d_Mdl_changed_131 rfl (lv_at hl 5 rfl) ?_
              refine kv_vs (rest := []) X hP hS (c_Mdl_result l D cB cI a bz ha S6 ((x2 / (2 : Int32)) + (0 : Int32)) x3) (kw_Mdl_result hts q_749 ⟨Nat.le_of_ble_eq_true rfl, Nat.le_of_ble_eq_true rfl⟩) 0 rfl rfl rfl hl.1 rfl (lv_room (Nat.le_of_ble_eq_true rfl)) d_Mdl_changed_132 (fun r9 S10 H locs e11 hP hS => ?_)
              exact rt_vs X hr hk hP hS (by rw [f_Mdl_changed, if_pos h1, if_pos h2, if_pos h3, if_pos h4, if_pos h5, bs_eq e7, if_neg h8, bn_eq e11]) d_Mdl_changed_135
            ·
              refine lv_iload hx hb d_Mdl_changed_121 (lv_at hl 0 rfl) ?_
              refine lv_iload hx hb d_Mdl_changed_123 (lv_at hl 1 rfl) ?_
              refine lv_imul hx hb d_Mdl_changed_125 ?_
              refine lv_goto (tgt := 130) hx hb d_Mdl_changed_126 rfl ?_
              refine lv_iadd hx hb d_Mdl_changed_130 ?_
              refine lv_iload_n hx hb d_Mdl_changed_131 rfl (lv_at hl 5 rfl) ?_
              refine kv_vs (rest := []) X hP hS (c_Mdl_result l D cB cI a bz ha S6 ((x2 / (2 : Int32)) + ((0 : Int32) * (32768 : Int32))) x3) (kw_Mdl_result hts q_749 ⟨Nat.le_of_ble_eq_true rfl, Nat.le_of_ble_eq_true rfl⟩) 0 rfl rfl rfl hl.1 rfl (lv_room (Nat.le_of_ble_eq_true rfl)) d_Mdl_changed_132 (fun r12 S13 H locs e14 hP hS => ?_)
              exact rt_vs X hr hk hP hS (by rw [f_Mdl_changed, if_pos h1, if_pos h2, if_pos h3, if_pos h4, if_pos h5, bs_eq e7, if_pos h8, bn_eq e14]) d_Mdl_changed_135
          ·
            refine lv_iconst (v := (1 : Int32)) hx hb d_Mdl_changed_104 (by decide) ?_
            refine lv_goto (tgt := 109) hx hb d_Mdl_changed_105 rfl ?_
            refine kv_s (rest := []) X hP hS (c_Mdl_flag l D cB cI a bz ha S (1 : Int32) (1 : Int32)) (kw_Mdl_flag hts q_682 ⟨Nat.le_of_ble_eq_true rfl, Nat.le_of_ble_eq_true rfl⟩) 0 rfl rfl rfl hl.1 rfl (lv_room (Nat.le_of_ble_eq_true rfl)) d_Mdl_changed_109 (fun S15 H locs e16 hP hS => ?_)
            refine lv_aload_n hx hb d_Mdl_changed_112 rfl (lv_at hl 2 rfl) ?_
            refine lv_iload_n hx hb d_Mdl_changed_113 rfl (lv_at hl 4 rfl) ?_
            refine lv_iconst (v := (2 : Int32)) hx hb d_Mdl_changed_114 (by decide) ?_
            refine lv_idiv hx hb d_Mdl_changed_115 (by decide) ?_
            refine lv_iload_n hx hb d_Mdl_changed_116 rfl (lv_at hl 3 rfl) ?_
            refine lv_iconst (v := (5 : Int32)) hx hb d_Mdl_changed_117 (by decide) ?_
            refine lv_icmp_ne (tgt := 129) hx hb d_Mdl_changed_118 rfl (fun h17 => ?_) (fun h17 => ?_)
            ·
              refine lv_iconst (v := (0 : Int32)) hx hb d_Mdl_changed_129 (by decide) ?_
              refine lv_iadd hx hb d_Mdl_changed_130 ?_
              refine lv_iload_n hx hb d_Mdl_changed_131 rfl (lv_at hl 5 rfl) ?_
              refine kv_vs (rest := []) X hP hS (c_Mdl_result l D cB cI a bz ha S15 ((x2 / (2 : Int32)) + (0 : Int32)) x3) (kw_Mdl_result hts q_749 ⟨Nat.le_of_ble_eq_true rfl, Nat.le_of_ble_eq_true rfl⟩) 0 rfl rfl rfl hl.1 rfl (lv_room (Nat.le_of_ble_eq_true rfl)) d_Mdl_changed_132 (fun r18 S19 H locs e20 hP hS => ?_)
              exact rt_vs X hr hk hP hS (by rw [f_Mdl_changed, if_pos h1, if_pos h2, if_pos h3, if_pos h4, if_neg h5, bs_eq e16, if_neg h17, bn_eq e20]) d_Mdl_changed_135
            ·
              refine lv_iload hx hb d_Mdl_changed_121 (lv_at hl 0 rfl) ?_
              refine lv_iload hx hb d_Mdl_changed_123 (lv_at hl 1 rfl) ?_
              refine lv_imul hx hb d_Mdl_changed_125 ?_
              refine lv_goto (tgt := 130) hx hb d_Mdl_changed_126 rfl ?_
              refine lv_iadd hx hb d_Mdl_changed_130 ?_
              refine lv_iload_n hx hb d_Mdl_changed_131 rfl (lv_at hl 5 rfl) ?_
              refine kv_vs (rest := []) X hP hS (c_Mdl_result l D cB cI a bz ha S15 ((x2 / (2 : Int32)) + ((0 : Int32) * (32768 : Int32))) x3) (kw_Mdl_result hts q_749 ⟨Nat.le_of_ble_eq_true rfl, Nat.le_of_ble_eq_true rfl⟩) 0 rfl rfl rfl hl.1 rfl (lv_room (Nat.le_of_ble_eq_true rfl)) d_Mdl_changed_132 (fun r21 S22 H locs e23 hP hS => ?_)
              exact rt_vs X hr hk hP hS (by rw [f_Mdl_changed, if_pos h1, if_pos h2, if_pos h3, if_pos h4, if_neg h5, bs_eq e16, if_pos h17, bn_eq e23]) d_Mdl_changed_135
        ·
          refine lv_aload_n hx hb d_Mdl_changed_58 rfl (lv_at hl 2 rfl) ?_
          refine lv_iconst (v := (1 : Int32)) hx hb d_Mdl_changed_59 (by decide) ?_
          refine lv_iload_n hx hb d_Mdl_changed_60 rfl (lv_at hl 4 rfl) ?_
          refine lv_iload hx hb d_Mdl_changed_61 (lv_at hl 1 rfl) ?_
          refine lv_iand hx hb d_Mdl_changed_63 ?_
          refine lv_if_eq (tgt := 71) hx hb d_Mdl_changed_64 rfl (fun h24 => ?_) (fun h24 => ?_)
          ·
            refine lv_iconst (v := (0 : Int32)) hx hb d_Mdl_changed_71 (by decide) ?_
            refine kv_s (rest := []) X hP hS (c_Mdl_flag l D cB cI a bz ha S (1 : Int32) (0 : Int32)) (kw_Mdl_flag hts q_682 ⟨Nat.le_of_ble_eq_true rfl, Nat.le_of_ble_eq_true rfl⟩) 0 rfl rfl rfl hl.1 rfl (lv_room (Nat.le_of_ble_eq_true rfl)) d_Mdl_changed_72 (fun S25 H locs e26 hP hS => ?_)
            refine lv_aload_n hx hb d_Mdl_changed_75 rfl (lv_at hl 2 rfl) ?_
            refine lv_iconst (v := (2 : Int32)) hx hb d_Mdl_changed_76 (by decide) ?_
            refine lv_iload_n hx hb d_Mdl_changed_77 rfl (lv_at hl 4 rfl) ?_
            refine lv_imul hx hb d_Mdl_changed_78 ?_
            refine lv_iload_n hx hb d_Mdl_changed_79 rfl (lv_at hl 3 rfl) ?_
            refine lv_iconst (v := (3 : Int32)) hx hb d_Mdl_changed_80 (by decide) ?_
            refine lv_icmp_ne (tgt := 89) hx hb d_Mdl_changed_81 rfl (fun h27 => ?_) (fun h27 => ?_)
            ·
              refine lv_iconst (v := (0 : Int32)) hx hb d_Mdl_changed_89 (by decide) ?_
              refine lv_iadd hx hb d_Mdl_changed_90 ?_
              refine lv_iload_n hx hb d_Mdl_changed_91 rfl (lv_at hl 5 rfl) ?_
              refine kv_vs (rest := []) X hP hS (c_Mdl_result l D cB cI a bz ha S25 (((2 : Int32) * x2) + (0 : Int32)) x3) (kw_Mdl_result hts q_749 ⟨Nat.le_of_ble_eq_true rfl, Nat.le_of_ble_eq_true rfl⟩) 0 rfl rfl rfl hl.1 rfl (lv_room (Nat.le_of_ble_eq_true rfl)) d_Mdl_changed_92 (fun r28 S29 H locs e30 hP hS => ?_)
              exact rt_vs X hr hk hP hS (by rw [f_Mdl_changed, if_pos h1, if_pos h2, if_pos h3, if_neg h4, if_pos h24, bs_eq e26, if_neg h27, bn_eq e30]) d_Mdl_changed_95
            ·
              refine lv_iload hx hb d_Mdl_changed_84 (lv_at hl 0 rfl) ?_
              refine lv_goto (tgt := 90) hx hb d_Mdl_changed_86 rfl ?_
              refine lv_iadd hx hb d_Mdl_changed_90 ?_
              refine lv_iload_n hx hb d_Mdl_changed_91 rfl (lv_at hl 5 rfl) ?_
              refine kv_vs (rest := []) X hP hS (c_Mdl_result l D cB cI a bz ha S25 (((2 : Int32) * x2) + (0 : Int32)) x3) (kw_Mdl_result hts q_749 ⟨Nat.le_of_ble_eq_true rfl, Nat.le_of_ble_eq_true rfl⟩) 0 rfl rfl rfl hl.1 rfl (lv_room (Nat.le_of_ble_eq_true rfl)) d_Mdl_changed_92 (fun r31 S32 H locs e33 hP hS => ?_)
              exact rt_vs X hr hk hP hS (by rw [f_Mdl_changed, if_pos h1, if_pos h2, if_pos h3, if_neg h4, if_pos h24, bs_eq e26, if_pos h27, bn_eq e33]) d_Mdl_changed_95
          ·
            refine lv_iconst (v := (1 : Int32)) hx hb d_Mdl_changed_67 (by decide) ?_
            refine lv_goto (tgt := 72) hx hb d_Mdl_changed_68 rfl ?_
            refine kv_s (rest := []) X hP hS (c_Mdl_flag l D cB cI a bz ha S (1 : Int32) (1 : Int32)) (kw_Mdl_flag hts q_682 ⟨Nat.le_of_ble_eq_true rfl, Nat.le_of_ble_eq_true rfl⟩) 0 rfl rfl rfl hl.1 rfl (lv_room (Nat.le_of_ble_eq_true rfl)) d_Mdl_changed_72 (fun S34 H locs e35 hP hS => ?_)
            refine lv_aload_n hx hb d_Mdl_changed_75 rfl (lv_at hl 2 rfl) ?_
            refine lv_iconst (v := (2 : Int32)) hx hb d_Mdl_changed_76 (by decide) ?_
            refine lv_iload_n hx hb d_Mdl_changed_77 rfl (lv_at hl 4 rfl) ?_
            refine lv_imul hx hb d_Mdl_changed_78 ?_
            refine lv_iload_n hx hb d_Mdl_changed_79 rfl (lv_at hl 3 rfl) ?_
            refine lv_iconst (v := (3 : Int32)) hx hb d_Mdl_changed_80 (by decide) ?_
            refine lv_icmp_ne (tgt := 89) hx hb d_Mdl_changed_81 rfl (fun h36 => ?_) (fun h36 => ?_)
            ·
              refine lv_iconst (v := (0 : Int32)) hx hb d_Mdl_changed_89 (by decide) ?_
              refine lv_iadd hx hb d_Mdl_changed_90 ?_
              refine lv_iload_n hx hb d_Mdl_changed_91 rfl (lv_at hl 5 rfl) ?_
              refine kv_vs (rest := []) X hP hS (c_Mdl_result l D cB cI a bz ha S34 (((2 : Int32) * x2) + (0 : Int32)) x3) (kw_Mdl_result hts q_749 ⟨Nat.le_of_ble_eq_true rfl, Nat.le_of_ble_eq_true rfl⟩) 0 rfl rfl rfl hl.1 rfl (lv_room (Nat.le_of_ble_eq_true rfl)) d_Mdl_changed_92 (fun r37 S38 H locs e39 hP hS => ?_)
              exact rt_vs X hr hk hP hS (by rw [f_Mdl_changed, if_pos h1, if_pos h2, if_pos h3, if_neg h4, if_neg h24, bs_eq e35, if_neg h36, bn_eq e39]) d_Mdl_changed_95
            ·
              refine lv_iload hx hb d_Mdl_changed_84 (lv_at hl 0 rfl) ?_
              refine lv_goto (tgt := 90) hx hb d_Mdl_changed_86 rfl ?_
              refine lv_iadd hx hb d_Mdl_changed_90 ?_
              refine lv_iload_n hx hb d_Mdl_changed_91 rfl (lv_at hl 5 rfl) ?_
              refine kv_vs (rest := []) X hP hS (c_Mdl_result l D cB cI a bz ha S34 (((2 : Int32) * x2) + (0 : Int32)) x3) (kw_Mdl_result hts q_749 ⟨Nat.le_of_ble_eq_true rfl, Nat.le_of_ble_eq_true rfl⟩) 0 rfl rfl rfl hl.1 rfl (lv_room (Nat.le_of_ble_eq_true rfl)) d_Mdl_changed_92 (fun r40 S41 H locs e42 hP hS => ?_)
              exact rt_vs X hr hk hP hS (by rw [f_Mdl_changed, if_pos h1, if_pos h2, if_pos h3, if_neg h4, if_neg h24, bs_eq e35, if_pos h36, bn_eq e42]) d_Mdl_changed_95
      ·
        refine lv_aload_n hx hb d_Mdl_changed_34 rfl (lv_at hl 2 rfl) ?_
        refine lv_iload_n hx hb d_Mdl_changed_35 rfl (lv_at hl 3 rfl) ?_
        refine lv_if_ne (tgt := 45) hx hb d_Mdl_changed_36 rfl (fun h43 => ?_) (fun h43 => ?_)
        ·
          refine lv_iload_n hx hb d_Mdl_changed_45 rfl (lv_at hl 4 rfl) ?_
          refine lv_iconst (v := (1 : Int32)) hx hb d_Mdl_changed_46 (by decide) ?_
          refine lv_isub hx hb d_Mdl_changed_47 ?_
          refine lv_iload_n hx hb d_Mdl_changed_48 rfl (lv_at hl 5 rfl) ?_
          refine kv_vs (rest := []) X hP hS (c_Mdl_result l D cB cI a bz ha S (x2 - (1 : Int32)) x3) (kw_Mdl_result hts q_749 ⟨Nat.le_of_ble_eq_true rfl, Nat.le_of_ble_eq_true rfl⟩) 0 rfl rfl rfl hl.1 rfl (lv_room (Nat.le_of_ble_eq_true rfl)) d_Mdl_changed_49 (fun r44 S45 H locs e46 hP hS => ?_)
          exact rt_vs X hr hk hP hS (by rw [f_Mdl_changed, if_pos h1, if_pos h2, if_neg h3, if_neg h43, bn_eq e46]) d_Mdl_changed_52
        ·
          refine lv_iload_n hx hb d_Mdl_changed_39 rfl (lv_at hl 4 rfl) ?_
          refine lv_iconst (v := (1 : Int32)) hx hb d_Mdl_changed_40 (by decide) ?_
          refine lv_iadd hx hb d_Mdl_changed_41 ?_
          refine lv_goto (tgt := 48) hx hb d_Mdl_changed_42 rfl ?_
          refine lv_iload_n hx hb d_Mdl_changed_48 rfl (lv_at hl 5 rfl) ?_
          refine kv_vs (rest := []) X hP hS (c_Mdl_result l D cB cI a bz ha S (x2 + (1 : Int32)) x3) (kw_Mdl_result hts q_749 ⟨Nat.le_of_ble_eq_true rfl, Nat.le_of_ble_eq_true rfl⟩) 0 rfl rfl rfl hl.1 rfl (lv_room (Nat.le_of_ble_eq_true rfl)) d_Mdl_changed_49 (fun r47 S48 H locs e49 hP hS => ?_)
          exact rt_vs X hr hk hP hS (by rw [f_Mdl_changed, if_pos h1, if_pos h2, if_neg h3, if_pos h43, bn_eq e49]) d_Mdl_changed_52
    ·
      refine lv_iconst (v := (1 : Int32)) hx hb d_Mdl_changed_22 (by decide) ?_
      refine lv_goto (tgt := 27) hx hb d_Mdl_changed_23 rfl ?_
      refine lv_istore hx hb d_Mdl_changed_27 hl (Nat.le_of_ble_eq_true rfl) rfl (fun ls hl => ?_)
      have hl : lv_has ls 6 [(5, .int ((1 : Int32))), (4, .int ((32768 : Int32))), (0, .ref (a 0)), (1, .int (x1)), (2, .int (x2)), (3, .int (x3))] := hl
      refine lv_iload_n hx hb d_Mdl_changed_29 rfl (lv_at hl 3 rfl) ?_
      refine lv_iconst (v := (2 : Int32)) hx hb d_Mdl_changed_30 (by decide) ?_
      refine lv_icmp_ge (tgt := 53) hx hb d_Mdl_changed_31 rfl (fun h50 => ?_) (fun h50 => ?_)
      ·
        refine lv_iload_n hx hb d_Mdl_changed_53 rfl (lv_at hl 3 rfl) ?_
        refine lv_iconst (v := (4 : Int32)) hx hb d_Mdl_changed_54 (by decide) ?_
        refine lv_icmp_ge (tgt := 96) hx hb d_Mdl_changed_55 rfl (fun h51 => ?_) (fun h51 => ?_)
        ·
          refine lv_aload_n hx hb d_Mdl_changed_96 rfl (lv_at hl 2 rfl) ?_
          refine lv_iconst (v := (1 : Int32)) hx hb d_Mdl_changed_97 (by decide) ?_
          refine lv_iload_n hx hb d_Mdl_changed_98 rfl (lv_at hl 4 rfl) ?_
          refine lv_iconst (v := (1 : Int32)) hx hb d_Mdl_changed_99 (by decide) ?_
          refine lv_iand hx hb d_Mdl_changed_100 ?_
          refine lv_if_eq (tgt := 108) hx hb d_Mdl_changed_101 rfl (fun h52 => ?_) (fun h52 => ?_)
          ·
            refine lv_iconst (v := (0 : Int32)) hx hb d_Mdl_changed_108 (by decide) ?_
            refine kv_s (rest := []) X hP hS (c_Mdl_flag l D cB cI a bz ha S (1 : Int32) (0 : Int32)) (kw_Mdl_flag hts q_682 ⟨Nat.le_of_ble_eq_true rfl, Nat.le_of_ble_eq_true rfl⟩) 0 rfl rfl rfl hl.1 rfl (lv_room (Nat.le_of_ble_eq_true rfl)) d_Mdl_changed_109 (fun S53 H locs e54 hP hS => ?_)
            refine lv_aload_n hx hb d_Mdl_changed_112 rfl (lv_at hl 2 rfl) ?_
            refine lv_iload_n hx hb d_Mdl_changed_113 rfl (lv_at hl 4 rfl) ?_
            refine lv_iconst (v := (2 : Int32)) hx hb d_Mdl_changed_114 (by decide) ?_
            refine lv_idiv hx hb d_Mdl_changed_115 (by decide) ?_
            refine lv_iload_n hx hb d_Mdl_changed_116 rfl (lv_at hl 3 rfl) ?_
            refine lv_iconst (v := (5 : Int32)) hx hb d_Mdl_changed_117 (by decide) ?_
            refine lv_icmp_ne (tgt := 129) hx hb d_Mdl_changed_118 rfl (fun h55 => ?_) (fun h55 => ?_)
            ·
              refine lv_iconst (v := (0 : Int32)) hx hb d_Mdl_changed_129 (by decide) ?_
              refine lv_iadd hx hb d_Mdl_changed_130 ?_
              refine lv_iload_n hx hb d_Mdl_changed_131 rfl (lv_at hl 5 rfl) ?_
              refine kv_vs (rest := []) X hP hS (c_Mdl_result l D cB cI a bz ha S53 ((x2 / (2 : Int32)) + (0 : Int32)) x3) (kw_Mdl_result hts q_749 ⟨Nat.le_of_ble_eq_true rfl, Nat.le_of_ble_eq_true rfl⟩) 0 rfl rfl rfl hl.1 rfl (lv_room (Nat.le_of_ble_eq_true rfl)) d_Mdl_changed_132 (fun r56 S57 H locs e58 hP hS => ?_)
              exact rt_vs X hr hk hP hS (by rw [f_Mdl_changed, if_pos h1, if_neg h2, if_pos h50, if_pos h51, if_pos h52, bs_eq e54, if_neg h55, bn_eq e58]) d_Mdl_changed_135
            ·
              refine lv_iload hx hb d_Mdl_changed_121 (lv_at hl 0 rfl) ?_
              refine lv_iload hx hb d_Mdl_changed_123 (lv_at hl 1 rfl) ?_
              refine lv_imul hx hb d_Mdl_changed_125 ?_
              refine lv_goto (tgt := 130) hx hb d_Mdl_changed_126 rfl ?_
              refine lv_iadd hx hb d_Mdl_changed_130 ?_
              refine lv_iload_n hx hb d_Mdl_changed_131 rfl (lv_at hl 5 rfl) ?_
              refine kv_vs (rest := []) X hP hS (c_Mdl_result l D cB cI a bz ha S53 ((x2 / (2 : Int32)) + ((1 : Int32) * (32768 : Int32))) x3) (kw_Mdl_result hts q_749 ⟨Nat.le_of_ble_eq_true rfl, Nat.le_of_ble_eq_true rfl⟩) 0 rfl rfl rfl hl.1 rfl (lv_room (Nat.le_of_ble_eq_true rfl)) d_Mdl_changed_132 (fun r59 S60 H locs e61 hP hS => ?_)
              exact rt_vs X hr hk hP hS (by rw [f_Mdl_changed, if_pos h1, if_neg h2, if_pos h50, if_pos h51, if_pos h52, bs_eq e54, if_pos h55, bn_eq e61]) d_Mdl_changed_135
          ·
            refine lv_iconst (v := (1 : Int32)) hx hb d_Mdl_changed_104 (by decide) ?_
            refine lv_goto (tgt := 109) hx hb d_Mdl_changed_105 rfl ?_
            refine kv_s (rest := []) X hP hS (c_Mdl_flag l D cB cI a bz ha S (1 : Int32) (1 : Int32)) (kw_Mdl_flag hts q_682 ⟨Nat.le_of_ble_eq_true rfl, Nat.le_of_ble_eq_true rfl⟩) 0 rfl rfl rfl hl.1 rfl (lv_room (Nat.le_of_ble_eq_true rfl)) d_Mdl_changed_109 (fun S62 H locs e63 hP hS => ?_)
            refine lv_aload_n hx hb d_Mdl_changed_112 rfl (lv_at hl 2 rfl) ?_
            refine lv_iload_n hx hb d_Mdl_changed_113 rfl (lv_at hl 4 rfl) ?_
            refine lv_iconst (v := (2 : Int32)) hx hb d_Mdl_changed_114 (by decide) ?_
            refine lv_idiv hx hb d_Mdl_changed_115 (by decide) ?_
            refine lv_iload_n hx hb d_Mdl_changed_116 rfl (lv_at hl 3 rfl) ?_
            refine lv_iconst (v := (5 : Int32)) hx hb d_Mdl_changed_117 (by decide) ?_
            refine lv_icmp_ne (tgt := 129) hx hb d_Mdl_changed_118 rfl (fun h64 => ?_) (fun h64 => ?_)
            ·
              refine lv_iconst (v := (0 : Int32)) hx hb d_Mdl_changed_129 (by decide) ?_
              refine lv_iadd hx hb d_Mdl_changed_130 ?_
              refine lv_iload_n hx hb d_Mdl_changed_131 rfl (lv_at hl 5 rfl) ?_
              refine kv_vs (rest := []) X hP hS (c_Mdl_result l D cB cI a bz ha S62 ((x2 / (2 : Int32)) + (0 : Int32)) x3) (kw_Mdl_result hts q_749 ⟨Nat.le_of_ble_eq_true rfl, Nat.le_of_ble_eq_true rfl⟩) 0 rfl rfl rfl hl.1 rfl (lv_room (Nat.le_of_ble_eq_true rfl)) d_Mdl_changed_132 (fun r65 S66 H locs e67 hP hS => ?_)
              exact rt_vs X hr hk hP hS (by rw [f_Mdl_changed, if_pos h1, if_neg h2, if_pos h50, if_pos h51, if_neg h52, bs_eq e63, if_neg h64, bn_eq e67]) d_Mdl_changed_135
            ·
              refine lv_iload hx hb d_Mdl_changed_121 (lv_at hl 0 rfl) ?_
              refine lv_iload hx hb d_Mdl_changed_123 (lv_at hl 1 rfl) ?_
              refine lv_imul hx hb d_Mdl_changed_125 ?_
              refine lv_goto (tgt := 130) hx hb d_Mdl_changed_126 rfl ?_
              refine lv_iadd hx hb d_Mdl_changed_130 ?_
              refine lv_iload_n hx hb d_Mdl_changed_131 rfl (lv_at hl 5 rfl) ?_
              refine kv_vs (rest := []) X hP hS (c_Mdl_result l D cB cI a bz ha S62 ((x2 / (2 : Int32)) + ((1 : Int32) * (32768 : Int32))) x3) (kw_Mdl_result hts q_749 ⟨Nat.le_of_ble_eq_true rfl, Nat.le_of_ble_eq_true rfl⟩) 0 rfl rfl rfl hl.1 rfl (lv_room (Nat.le_of_ble_eq_true rfl)) d_Mdl_changed_132 (fun r68 S69 H locs e70 hP hS => ?_)
              exact rt_vs X hr hk hP hS (by rw [f_Mdl_changed, if_pos h1, if_neg h2, if_pos h50, if_pos h51, if_neg h52, bs_eq e63, if_pos h64, bn_eq e70]) d_Mdl_changed_135
        ·
          refine lv_aload_n hx hb d_Mdl_changed_58 rfl (lv_at hl 2 rfl) ?_
          refine lv_iconst (v := (1 : Int32)) hx hb d_Mdl_changed_59 (by decide) ?_
          refine lv_iload_n hx hb d_Mdl_changed_60 rfl (lv_at hl 4 rfl) ?_
          refine lv_iload hx hb d_Mdl_changed_61 (lv_at hl 1 rfl) ?_
          refine lv_iand hx hb d_Mdl_changed_63 ?_
          refine lv_if_eq (tgt := 71) hx hb d_Mdl_changed_64 rfl (fun h71 => ?_) (fun h71 => ?_)
          ·
            refine lv_iconst (v := (0 : Int32)) hx hb d_Mdl_changed_71 (by decide) ?_
            refine kv_s (rest := []) X hP hS (c_Mdl_flag l D cB cI a bz ha S (1 : Int32) (0 : Int32)) (kw_Mdl_flag hts q_682 ⟨Nat.le_of_ble_eq_true rfl, Nat.le_of_ble_eq_true rfl⟩) 0 rfl rfl rfl hl.1 rfl (lv_room (Nat.le_of_ble_eq_true rfl)) d_Mdl_changed_72 (fun S72 H locs e73 hP hS => ?_)
            refine lv_aload_n hx hb d_Mdl_changed_75 rfl (lv_at hl 2 rfl) ?_
            refine lv_iconst (v := (2 : Int32)) hx hb d_Mdl_changed_76 (by decide) ?_
            refine lv_iload_n hx hb d_Mdl_changed_77 rfl (lv_at hl 4 rfl) ?_
            refine lv_imul hx hb d_Mdl_changed_78 ?_
            refine lv_iload_n hx hb d_Mdl_changed_79 rfl (lv_at hl 3 rfl) ?_
            refine lv_iconst (v := (3 : Int32)) hx hb d_Mdl_changed_80 (by decide) ?_
            refine lv_icmp_ne (tgt := 89) hx hb d_Mdl_changed_81 rfl (fun h74 => ?_) (fun h74 => ?_)
            ·
              refine lv_iconst (v := (0 : Int32)) hx hb d_Mdl_changed_89 (by decide) ?_
              refine lv_iadd hx hb d_Mdl_changed_90 ?_
              refine lv_iload_n hx hb d_Mdl_changed_91 rfl (lv_at hl 5 rfl) ?_
              refine kv_vs (rest := []) X hP hS (c_Mdl_result l D cB cI a bz ha S72 (((2 : Int32) * x2) + (0 : Int32)) x3) (kw_Mdl_result hts q_749 ⟨Nat.le_of_ble_eq_true rfl, Nat.le_of_ble_eq_true rfl⟩) 0 rfl rfl rfl hl.1 rfl (lv_room (Nat.le_of_ble_eq_true rfl)) d_Mdl_changed_92 (fun r75 S76 H locs e77 hP hS => ?_)
              exact rt_vs X hr hk hP hS (by rw [f_Mdl_changed, if_pos h1, if_neg h2, if_pos h50, if_neg h51, if_pos h71, bs_eq e73, if_neg h74, bn_eq e77]) d_Mdl_changed_95
            ·
              refine lv_iload hx hb d_Mdl_changed_84 (lv_at hl 0 rfl) ?_
              refine lv_goto (tgt := 90) hx hb d_Mdl_changed_86 rfl ?_
              refine lv_iadd hx hb d_Mdl_changed_90 ?_
              refine lv_iload_n hx hb d_Mdl_changed_91 rfl (lv_at hl 5 rfl) ?_
              refine kv_vs (rest := []) X hP hS (c_Mdl_result l D cB cI a bz ha S72 (((2 : Int32) * x2) + (1 : Int32)) x3) (kw_Mdl_result hts q_749 ⟨Nat.le_of_ble_eq_true rfl, Nat.le_of_ble_eq_true rfl⟩) 0 rfl rfl rfl hl.1 rfl (lv_room (Nat.le_of_ble_eq_true rfl)) d_Mdl_changed_92 (fun r78 S79 H locs e80 hP hS => ?_)
              exact rt_vs X hr hk hP hS (by rw [f_Mdl_changed, if_pos h1, if_neg h2, if_pos h50, if_neg h51, if_pos h71, bs_eq e73, if_pos h74, bn_eq e80]) d_Mdl_changed_95
          ·
            refine lv_iconst (v := (1 : Int32)) hx hb d_Mdl_changed_67 (by decide) ?_
            refine lv_goto (tgt := 72) hx hb d_Mdl_changed_68 rfl ?_
            refine kv_s (rest := []) X hP hS (c_Mdl_flag l D cB cI a bz ha S (1 : Int32) (1 : Int32)) (kw_Mdl_flag hts q_682 ⟨Nat.le_of_ble_eq_true rfl, Nat.le_of_ble_eq_true rfl⟩) 0 rfl rfl rfl hl.1 rfl (lv_room (Nat.le_of_ble_eq_true rfl)) d_Mdl_changed_72 (fun S81 H locs e82 hP hS => ?_)
            refine lv_aload_n hx hb d_Mdl_changed_75 rfl (lv_at hl 2 rfl) ?_
            refine lv_iconst (v := (2 : Int32)) hx hb d_Mdl_changed_76 (by decide) ?_
            refine lv_iload_n hx hb d_Mdl_changed_77 rfl (lv_at hl 4 rfl) ?_
            refine lv_imul hx hb d_Mdl_changed_78 ?_
            refine lv_iload_n hx hb d_Mdl_changed_79 rfl (lv_at hl 3 rfl) ?_
            refine lv_iconst (v := (3 : Int32)) hx hb d_Mdl_changed_80 (by decide) ?_
            refine lv_icmp_ne (tgt := 89) hx hb d_Mdl_changed_81 rfl (fun h83 => ?_) (fun h83 => ?_)
            ·
              refine lv_iconst (v := (0 : Int32)) hx hb d_Mdl_changed_89 (by decide) ?_
              refine lv_iadd hx hb d_Mdl_changed_90 ?_
              refine lv_iload_n hx hb d_Mdl_changed_91 rfl (lv_at hl 5 rfl) ?_
              refine kv_vs (rest := []) X hP hS (c_Mdl_result l D cB cI a bz ha S81 (((2 : Int32) * x2) + (0 : Int32)) x3) (kw_Mdl_result hts q_749 ⟨Nat.le_of_ble_eq_true rfl, Nat.le_of_ble_eq_true rfl⟩) 0 rfl rfl rfl hl.1 rfl (lv_room (Nat.le_of_ble_eq_true rfl)) d_Mdl_changed_92 (fun r84 S85 H locs e86 hP hS => ?_)
              exact rt_vs X hr hk hP hS (by rw [f_Mdl_changed, if_pos h1, if_neg h2, if_pos h50, if_neg h51, if_neg h71, bs_eq e82, if_neg h83, bn_eq e86]) d_Mdl_changed_95
            ·
              refine lv_iload hx hb d_Mdl_changed_84 (lv_at hl 0 rfl) ?_
              refine lv_goto (tgt := 90) hx hb d_Mdl_changed_86 rfl ?_
              refine lv_iadd hx hb d_Mdl_changed_90 ?_
              refine lv_iload_n hx hb d_Mdl_changed_91 rfl (lv_at hl 5 rfl) ?_
              refine kv_vs (rest := []) X hP hS (c_Mdl_result l D cB cI a bz ha S81 (((2 : Int32) * x2) + (1 : Int32)) x3) (kw_Mdl_result hts q_749 ⟨Nat.le_of_ble_eq_true rfl, Nat.le_of_ble_eq_true rfl⟩) 0 rfl rfl rfl hl.1 rfl (lv_room (Nat.le_of_ble_eq_true rfl)) d_Mdl_changed_92 (fun r87 S88 H locs e89 hP hS => ?_)
              exact rt_vs X hr hk hP hS (by rw [f_Mdl_changed, if_pos h1, if_neg h2, if_pos h50, if_neg h51, if_neg h71, bs_eq e82, if_pos h83, bn_eq e89]) d_Mdl_changed_95
      ·
        refine lv_aload_n hx hb d_Mdl_changed_34 rfl (lv_at hl 2 rfl) ?_
        refine lv_iload_n hx hb d_Mdl_changed_35 rfl (lv_at hl 3 rfl) ?_
        refine lv_if_ne (tgt := 45) hx hb d_Mdl_changed_36 rfl (fun h90 => ?_) (fun h90 => ?_)
        ·
          refine lv_iload_n hx hb d_Mdl_changed_45 rfl (lv_at hl 4 rfl) ?_
          refine lv_iconst (v := (1 : Int32)) hx hb d_Mdl_changed_46 (by decide) ?_
          refine lv_isub hx hb d_Mdl_changed_47 ?_
          refine lv_iload_n hx hb d_Mdl_changed_48 rfl (lv_at hl 5 rfl) ?_
          refine kv_vs (rest := []) X hP hS (c_Mdl_result l D cB cI a bz ha S (x2 - (1 : Int32)) x3) (kw_Mdl_result hts q_749 ⟨Nat.le_of_ble_eq_true rfl, Nat.le_of_ble_eq_true rfl⟩) 0 rfl rfl rfl hl.1 rfl (lv_room (Nat.le_of_ble_eq_true rfl)) d_Mdl_changed_49 (fun r91 S92 H locs e93 hP hS => ?_)
          exact rt_vs X hr hk hP hS (by rw [f_Mdl_changed, if_pos h1, if_neg h2, if_neg h50, if_neg h90, bn_eq e93]) d_Mdl_changed_52
        ·
          refine lv_iload_n hx hb d_Mdl_changed_39 rfl (lv_at hl 4 rfl) ?_
          refine lv_iconst (v := (1 : Int32)) hx hb d_Mdl_changed_40 (by decide) ?_
          refine lv_iadd hx hb d_Mdl_changed_41 ?_
          refine lv_goto (tgt := 48) hx hb d_Mdl_changed_42 rfl ?_
          refine lv_iload_n hx hb d_Mdl_changed_48 rfl (lv_at hl 5 rfl) ?_
          refine kv_vs (rest := []) X hP hS (c_Mdl_result l D cB cI a bz ha S (x2 + (1 : Int32)) x3) (kw_Mdl_result hts q_749 ⟨Nat.le_of_ble_eq_true rfl, Nat.le_of_ble_eq_true rfl⟩) 0 rfl rfl rfl hl.1 rfl (lv_room (Nat.le_of_ble_eq_true rfl)) d_Mdl_changed_49 (fun r94 S95 H locs e96 hP hS => ?_)
          exact rt_vs X hr hk hP hS (by rw [f_Mdl_changed, if_pos h1, if_neg h2, if_neg h50, if_pos h90, bn_eq e96]) d_Mdl_changed_52
  ·
    refine lv_sipush (v := (128 : Int32)) hx hb d_Mdl_changed_4 (by decide) ?_
    refine lv_goto (tgt := 12) hx hb d_Mdl_changed_7 rfl ?_
    refine lv_istore hx hb d_Mdl_changed_12 hl (Nat.le_of_ble_eq_true rfl) rfl (fun ls hl => ?_)
    have hl : lv_has ls 6 [(4, .int ((128 : Int32))), (0, .ref (a 0)), (1, .int (x1)), (2, .int (x2)), (3, .int (x3))] := hl
    refine lv_aload_n hx hb d_Mdl_changed_14 rfl (lv_at hl 1 rfl) ?_
    refine lv_iconst (v := (1 : Int32)) hx hb d_Mdl_changed_15 (by decide) ?_
    refine kv_v (rest := []) X hP hS (c_Mdl_is l D cB cI a bz ha S (1 : Int32)) (kw_Mdl_is hts q_635 ⟨Nat.le_of_ble_eq_true rfl, Nat.le_of_ble_eq_true rfl⟩) 0 rfl rfl rfl hl.1 rfl (lv_room (Nat.le_of_ble_eq_true rfl)) d_Mdl_changed_16 (fun H locs hP hS => ?_)
    refine lv_if_eq (tgt := 26) hx hb d_Mdl_changed_19 rfl (fun h97 => ?_) (fun h97 => ?_)
    ·
      refine lv_iconst (v := (0 : Int32)) hx hb d_Mdl_changed_26 (by decide) ?_
      refine lv_istore hx hb d_Mdl_changed_27 hl (Nat.le_of_ble_eq_true rfl) rfl (fun ls hl => ?_)
      have hl : lv_has ls 6 [(5, .int ((0 : Int32))), (4, .int ((128 : Int32))), (0, .ref (a 0)), (1, .int (x1)), (2, .int (x2)), (3, .int (x3))] := hl
      refine lv_iload_n hx hb d_Mdl_changed_29 rfl (lv_at hl 3 rfl) ?_
      refine lv_iconst (v := (2 : Int32)) hx hb d_Mdl_changed_30 (by decide) ?_
      refine lv_icmp_ge (tgt := 53) hx hb d_Mdl_changed_31 rfl (fun h98 => ?_) (fun h98 => ?_)
      ·
        refine lv_iload_n hx hb d_Mdl_changed_53 rfl (lv_at hl 3 rfl) ?_
        refine lv_iconst (v := (4 : Int32)) hx hb d_Mdl_changed_54 (by decide) ?_
        refine lv_icmp_ge (tgt := 96) hx hb d_Mdl_changed_55 rfl (fun h99 => ?_) (fun h99 => ?_)
        ·
          refine lv_aload_n hx hb d_Mdl_changed_96 rfl (lv_at hl 2 rfl) ?_
          refine lv_iconst (v := (1 : Int32)) hx hb d_Mdl_changed_97 (by decide) ?_
          refine lv_iload_n hx hb d_Mdl_changed_98 rfl (lv_at hl 4 rfl) ?_
          refine lv_iconst (v := (1 : Int32)) hx hb d_Mdl_changed_99 (by decide) ?_
          refine lv_iand hx hb d_Mdl_changed_100 ?_
          refine lv_if_eq (tgt := 108) hx hb d_Mdl_changed_101 rfl (fun h100 => ?_) (fun h100 => ?_)
          ·
            refine lv_iconst (v := (0 : Int32)) hx hb d_Mdl_changed_108 (by decide) ?_
            refine kv_s (rest := []) X hP hS (c_Mdl_flag l D cB cI a bz ha S (1 : Int32) (0 : Int32)) (kw_Mdl_flag hts q_682 ⟨Nat.le_of_ble_eq_true rfl, Nat.le_of_ble_eq_true rfl⟩) 0 rfl rfl rfl hl.1 rfl (lv_room (Nat.le_of_ble_eq_true rfl)) d_Mdl_changed_109 (fun S101 H locs e102 hP hS => ?_)
            refine lv_aload_n hx hb d_Mdl_changed_112 rfl (lv_at hl 2 rfl) ?_
            refine lv_iload_n hx hb d_Mdl_changed_113 rfl (lv_at hl 4 rfl) ?_
            refine lv_iconst (v := (2 : Int32)) hx hb d_Mdl_changed_114 (by decide) ?_
            refine lv_idiv hx hb d_Mdl_changed_115 (by decide) ?_
            refine lv_iload_n hx hb d_Mdl_changed_116 rfl (lv_at hl 3 rfl) ?_
            refine lv_iconst (v := (5 : Int32)) hx hb d_Mdl_changed_117 (by decide) ?_
            refine lv_icmp_ne (tgt := 129) hx hb d_Mdl_changed_118 rfl (fun h103 => ?_) (fun h103 => ?_)
            ·
              refine lv_iconst (v := (0 : Int32)) hx hb d_Mdl_changed_129 (by decide) ?_
              refine lv_iadd hx hb d_Mdl_changed_130 ?_
              refine lv_iload_n hx hb d_Mdl_changed_131 rfl (lv_at hl 5 rfl) ?_
              refine kv_vs (rest := []) X hP hS (c_Mdl_result l D cB cI a bz ha S101 ((x2 / (2 : Int32)) + (0 : Int32)) x3) (kw_Mdl_result hts q_749 ⟨Nat.le_of_ble_eq_true rfl, Nat.le_of_ble_eq_true rfl⟩) 0 rfl rfl rfl hl.1 rfl (lv_room (Nat.le_of_ble_eq_true rfl)) d_Mdl_changed_132 (fun r104 S105 H locs e106 hP hS => ?_)
              exact rt_vs X hr hk hP hS (by rw [f_Mdl_changed, if_neg h1, if_pos h97, if_pos h98, if_pos h99, if_pos h100, bs_eq e102, if_neg h103, bn_eq e106]) d_Mdl_changed_135
            ·
              refine lv_iload hx hb d_Mdl_changed_121 (lv_at hl 0 rfl) ?_
              refine lv_iload hx hb d_Mdl_changed_123 (lv_at hl 1 rfl) ?_
              refine lv_imul hx hb d_Mdl_changed_125 ?_
              refine lv_goto (tgt := 130) hx hb d_Mdl_changed_126 rfl ?_
              refine lv_iadd hx hb d_Mdl_changed_130 ?_
              refine lv_iload_n hx hb d_Mdl_changed_131 rfl (lv_at hl 5 rfl) ?_
              refine kv_vs (rest := []) X hP hS (c_Mdl_result l D cB cI a bz ha S101 ((x2 / (2 : Int32)) + ((0 : Int32) * (128 : Int32))) x3) (kw_Mdl_result hts q_749 ⟨Nat.le_of_ble_eq_true rfl, Nat.le_of_ble_eq_true rfl⟩) 0 rfl rfl rfl hl.1 rfl (lv_room (Nat.le_of_ble_eq_true rfl)) d_Mdl_changed_132 (fun r107 S108 H locs e109 hP hS => ?_)
              exact rt_vs X hr hk hP hS (by rw [f_Mdl_changed, if_neg h1, if_pos h97, if_pos h98, if_pos h99, if_pos h100, bs_eq e102, if_pos h103, bn_eq e109]) d_Mdl_changed_135
          ·
            refine lv_iconst (v := (1 : Int32)) hx hb d_Mdl_changed_104 (by decide) ?_
            refine lv_goto (tgt := 109) hx hb d_Mdl_changed_105 rfl ?_
            refine kv_s (rest := []) X hP hS (c_Mdl_flag l D cB cI a bz ha S (1 : Int32) (1 : Int32)) (kw_Mdl_flag hts q_682 ⟨Nat.le_of_ble_eq_true rfl, Nat.le_of_ble_eq_true rfl⟩) 0 rfl rfl rfl hl.1 rfl (lv_room (Nat.le_of_ble_eq_true rfl)) d_Mdl_changed_109 (fun S110 H locs e111 hP hS => ?_)
            refine lv_aload_n hx hb d_Mdl_changed_112 rfl (lv_at hl 2 rfl) ?_
            refine lv_iload_n hx hb d_Mdl_changed_113 rfl (lv_at hl 4 rfl) ?_
            refine lv_iconst (v := (2 : Int32)) hx hb d_Mdl_changed_114 (by decide) ?_
            refine lv_idiv hx hb d_Mdl_changed_115 (by decide) ?_
            refine lv_iload_n hx hb d_Mdl_changed_116 rfl (lv_at hl 3 rfl) ?_
            refine lv_iconst (v := (5 : Int32)) hx hb d_Mdl_changed_117 (by decide) ?_
            refine lv_icmp_ne (tgt := 129) hx hb d_Mdl_changed_118 rfl (fun h112 => ?_) (fun h112 => ?_)
            ·
              refine lv_iconst (v := (0 : Int32)) hx hb d_Mdl_changed_129 (by decide) ?_
              refine lv_iadd hx hb d_Mdl_changed_130 ?_
              refine lv_iload_n hx hb d_Mdl_changed_131 rfl (lv_at hl 5 rfl) ?_
              refine kv_vs (rest := []) X hP hS (c_Mdl_result l D cB cI a bz ha S110 ((x2 / (2 : Int32)) + (0 : Int32)) x3) (kw_Mdl_result hts q_749 ⟨Nat.le_of_ble_eq_true rfl, Nat.le_of_ble_eq_true rfl⟩) 0 rfl rfl rfl hl.1 rfl (lv_room (Nat.le_of_ble_eq_true rfl)) d_Mdl_changed_132 (fun r113 S114 H locs e115 hP hS => ?_)
              exact rt_vs X hr hk hP hS (by rw [f_Mdl_changed, if_neg h1, if_pos h97, if_pos h98, if_pos h99, if_neg h100, bs_eq e111, if_neg h112, bn_eq e115]) d_Mdl_changed_135
            ·
              refine lv_iload hx hb d_Mdl_changed_121 (lv_at hl 0 rfl) ?_
              refine lv_iload hx hb d_Mdl_changed_123 (lv_at hl 1 rfl) ?_
              refine lv_imul hx hb d_Mdl_changed_125 ?_
              refine lv_goto (tgt := 130) hx hb d_Mdl_changed_126 rfl ?_
              refine lv_iadd hx hb d_Mdl_changed_130 ?_
              refine lv_iload_n hx hb d_Mdl_changed_131 rfl (lv_at hl 5 rfl) ?_
              refine kv_vs (rest := []) X hP hS (c_Mdl_result l D cB cI a bz ha S110 ((x2 / (2 : Int32)) + ((0 : Int32) * (128 : Int32))) x3) (kw_Mdl_result hts q_749 ⟨Nat.le_of_ble_eq_true rfl, Nat.le_of_ble_eq_true rfl⟩) 0 rfl rfl rfl hl.1 rfl (lv_room (Nat.le_of_ble_eq_true rfl)) d_Mdl_changed_132 (fun r116 S117 H locs e118 hP hS => ?_)
              exact rt_vs X hr hk hP hS (by rw [f_Mdl_changed, if_neg h1, if_pos h97, if_pos h98, if_pos h99, if_neg h100, bs_eq e111, if_pos h112, bn_eq e118]) d_Mdl_changed_135
        ·
          refine lv_aload_n hx hb d_Mdl_changed_58 rfl (lv_at hl 2 rfl) ?_
          refine lv_iconst (v := (1 : Int32)) hx hb d_Mdl_changed_59 (by decide) ?_
          refine lv_iload_n hx hb d_Mdl_changed_60 rfl (lv_at hl 4 rfl) ?_
          refine lv_iload hx hb d_Mdl_changed_61 (lv_at hl 1 rfl) ?_
          refine lv_iand hx hb d_Mdl_changed_63 ?_
          refine lv_if_eq (tgt := 71) hx hb d_Mdl_changed_64 rfl (fun h119 => ?_) (fun h119 => ?_)
          ·
            refine lv_iconst (v := (0 : Int32)) hx hb d_Mdl_changed_71 (by decide) ?_
            refine kv_s (rest := []) X hP hS (c_Mdl_flag l D cB cI a bz ha S (1 : Int32) (0 : Int32)) (kw_Mdl_flag hts q_682 ⟨Nat.le_of_ble_eq_true rfl, Nat.le_of_ble_eq_true rfl⟩) 0 rfl rfl rfl hl.1 rfl (lv_room (Nat.le_of_ble_eq_true rfl)) d_Mdl_changed_72 (fun S120 H locs e121 hP hS => ?_)
            refine lv_aload_n hx hb d_Mdl_changed_75 rfl (lv_at hl 2 rfl) ?_
            refine lv_iconst (v := (2 : Int32)) hx hb d_Mdl_changed_76 (by decide) ?_
            refine lv_iload_n hx hb d_Mdl_changed_77 rfl (lv_at hl 4 rfl) ?_
            refine lv_imul hx hb d_Mdl_changed_78 ?_
            refine lv_iload_n hx hb d_Mdl_changed_79 rfl (lv_at hl 3 rfl) ?_
            refine lv_iconst (v := (3 : Int32)) hx hb d_Mdl_changed_80 (by decide) ?_
            refine lv_icmp_ne (tgt := 89) hx hb d_Mdl_changed_81 rfl (fun h122 => ?_) (fun h122 => ?_)
            ·
              refine lv_iconst (v := (0 : Int32)) hx hb d_Mdl_changed_89 (by decide) ?_
              refine lv_iadd hx hb d_Mdl_changed_90 ?_
              refine lv_iload_n hx hb d_Mdl_changed_91 rfl (lv_at hl 5 rfl) ?_
              refine kv_vs (rest := []) X hP hS (c_Mdl_result l D cB cI a bz ha S120 (((2 : Int32) * x2) + (0 : Int32)) x3) (kw_Mdl_result hts q_749 ⟨Nat.le_of_ble_eq_true rfl, Nat.le_of_ble_eq_true rfl⟩) 0 rfl rfl rfl hl.1 rfl (lv_room (Nat.le_of_ble_eq_true rfl)) d_Mdl_changed_92 (fun r123 S124 H locs e125 hP hS => ?_)
              exact rt_vs X hr hk hP hS (by rw [f_Mdl_changed, if_neg h1, if_pos h97, if_pos h98, if_neg h99, if_pos h119, bs_eq e121, if_neg h122, bn_eq e125]) d_Mdl_changed_95
            ·
              refine lv_iload hx hb d_Mdl_changed_84 (lv_at hl 0 rfl) ?_
              refine lv_goto (tgt := 90) hx hb d_Mdl_changed_86 rfl ?_
              refine lv_iadd hx hb d_Mdl_changed_90 ?_
              refine lv_iload_n hx hb d_Mdl_changed_91 rfl (lv_at hl 5 rfl) ?_
              refine kv_vs (rest := []) X hP hS (c_Mdl_result l D cB cI a bz ha S120 (((2 : Int32) * x2) + (0 : Int32)) x3) (kw_Mdl_result hts q_749 ⟨Nat.le_of_ble_eq_true rfl, Nat.le_of_ble_eq_true rfl⟩) 0 rfl rfl rfl hl.1 rfl (lv_room (Nat.le_of_ble_eq_true rfl)) d_Mdl_changed_92 (fun r126 S127 H locs e128 hP hS => ?_)
              exact rt_vs X hr hk hP hS (by rw [f_Mdl_changed, if_neg h1, if_pos h97, if_pos h98, if_neg h99, if_pos h119, bs_eq e121, if_pos h122, bn_eq e128]) d_Mdl_changed_95
          ·
            refine lv_iconst (v := (1 : Int32)) hx hb d_Mdl_changed_67 (by decide) ?_
            refine lv_goto (tgt := 72) hx hb d_Mdl_changed_68 rfl ?_
            refine kv_s (rest := []) X hP hS (c_Mdl_flag l D cB cI a bz ha S (1 : Int32) (1 : Int32)) (kw_Mdl_flag hts q_682 ⟨Nat.le_of_ble_eq_true rfl, Nat.le_of_ble_eq_true rfl⟩) 0 rfl rfl rfl hl.1 rfl (lv_room (Nat.le_of_ble_eq_true rfl)) d_Mdl_changed_72 (fun S129 H locs e130 hP hS => ?_)
            refine lv_aload_n hx hb d_Mdl_changed_75 rfl (lv_at hl 2 rfl) ?_
            refine lv_iconst (v := (2 : Int32)) hx hb d_Mdl_changed_76 (by decide) ?_
            refine lv_iload_n hx hb d_Mdl_changed_77 rfl (lv_at hl 4 rfl) ?_
            refine lv_imul hx hb d_Mdl_changed_78 ?_
            refine lv_iload_n hx hb d_Mdl_changed_79 rfl (lv_at hl 3 rfl) ?_
            refine lv_iconst (v := (3 : Int32)) hx hb d_Mdl_changed_80 (by decide) ?_
            refine lv_icmp_ne (tgt := 89) hx hb d_Mdl_changed_81 rfl (fun h131 => ?_) (fun h131 => ?_)
            ·
              refine lv_iconst (v := (0 : Int32)) hx hb d_Mdl_changed_89 (by decide) ?_
              refine lv_iadd hx hb d_Mdl_changed_90 ?_
              refine lv_iload_n hx hb d_Mdl_changed_91 rfl (lv_at hl 5 rfl) ?_
              refine kv_vs (rest := []) X hP hS (c_Mdl_result l D cB cI a bz ha S129 (((2 : Int32) * x2) + (0 : Int32)) x3) (kw_Mdl_result hts q_749 ⟨Nat.le_of_ble_eq_true rfl, Nat.le_of_ble_eq_true rfl⟩) 0 rfl rfl rfl hl.1 rfl (lv_room (Nat.le_of_ble_eq_true rfl)) d_Mdl_changed_92 (fun r132 S133 H locs e134 hP hS => ?_)
              exact rt_vs X hr hk hP hS (by rw [f_Mdl_changed, if_neg h1, if_pos h97, if_pos h98, if_neg h99, if_neg h119, bs_eq e130, if_neg h131, bn_eq e134]) d_Mdl_changed_95
            ·
              refine lv_iload hx hb d_Mdl_changed_84 (lv_at hl 0 rfl) ?_
              refine lv_goto (tgt := 90) hx hb d_Mdl_changed_86 rfl ?_
              refine lv_iadd hx hb d_Mdl_changed_90 ?_
              refine lv_iload_n hx hb d_Mdl_changed_91 rfl (lv_at hl 5 rfl) ?_
              refine kv_vs (rest := []) X hP hS (c_Mdl_result l D cB cI a bz ha S129 (((2 : Int32) * x2) + (0 : Int32)) x3) (kw_Mdl_result hts q_749 ⟨Nat.le_of_ble_eq_true rfl, Nat.le_of_ble_eq_true rfl⟩) 0 rfl rfl rfl hl.1 rfl (lv_room (Nat.le_of_ble_eq_true rfl)) d_Mdl_changed_92 (fun r135 S136 H locs e137 hP hS => ?_)
              exact rt_vs X hr hk hP hS (by rw [f_Mdl_changed, if_neg h1, if_pos h97, if_pos h98, if_neg h99, if_neg h119, bs_eq e130, if_pos h131, bn_eq e137]) d_Mdl_changed_95
      ·
        refine lv_aload_n hx hb d_Mdl_changed_34 rfl (lv_at hl 2 rfl) ?_
        refine lv_iload_n hx hb d_Mdl_changed_35 rfl (lv_at hl 3 rfl) ?_
        refine lv_if_ne (tgt := 45) hx hb d_Mdl_changed_36 rfl (fun h138 => ?_) (fun h138 => ?_)
        ·
          refine lv_iload_n hx hb d_Mdl_changed_45 rfl (lv_at hl 4 rfl) ?_
          refine lv_iconst (v := (1 : Int32)) hx hb d_Mdl_changed_46 (by decide) ?_
          refine lv_isub hx hb d_Mdl_changed_47 ?_
          refine lv_iload_n hx hb d_Mdl_changed_48 rfl (lv_at hl 5 rfl) ?_
          refine kv_vs (rest := []) X hP hS (c_Mdl_result l D cB cI a bz ha S (x2 - (1 : Int32)) x3) (kw_Mdl_result hts q_749 ⟨Nat.le_of_ble_eq_true rfl, Nat.le_of_ble_eq_true rfl⟩) 0 rfl rfl rfl hl.1 rfl (lv_room (Nat.le_of_ble_eq_true rfl)) d_Mdl_changed_49 (fun r139 S140 H locs e141 hP hS => ?_)
          exact rt_vs X hr hk hP hS (by rw [f_Mdl_changed, if_neg h1, if_pos h97, if_neg h98, if_neg h138, bn_eq e141]) d_Mdl_changed_52
        ·
          refine lv_iload_n hx hb d_Mdl_changed_39 rfl (lv_at hl 4 rfl) ?_
          refine lv_iconst (v := (1 : Int32)) hx hb d_Mdl_changed_40 (by decide) ?_
          refine lv_iadd hx hb d_Mdl_changed_41 ?_
          refine lv_goto (tgt := 48) hx hb d_Mdl_changed_42 rfl ?_
          refine lv_iload_n hx hb d_Mdl_changed_48 rfl (lv_at hl 5 rfl) ?_
          refine kv_vs (rest := []) X hP hS (c_Mdl_result l D cB cI a bz ha S (x2 + (1 : Int32)) x3) (kw_Mdl_result hts q_749 ⟨Nat.le_of_ble_eq_true rfl, Nat.le_of_ble_eq_true rfl⟩) 0 rfl rfl rfl hl.1 rfl (lv_room (Nat.le_of_ble_eq_true rfl)) d_Mdl_changed_49 (fun r142 S143 H locs e144 hP hS => ?_)
          exact rt_vs X hr hk hP hS (by rw [f_Mdl_changed, if_neg h1, if_pos h97, if_neg h98, if_pos h138, bn_eq e144]) d_Mdl_changed_52
    ·
      refine lv_iconst (v := (1 : Int32)) hx hb d_Mdl_changed_22 (by decide) ?_
      refine lv_goto (tgt := 27) hx hb d_Mdl_changed_23 rfl ?_
      refine lv_istore hx hb d_Mdl_changed_27 hl (Nat.le_of_ble_eq_true rfl) rfl (fun ls hl => ?_)
      have hl : lv_has ls 6 [(5, .int ((1 : Int32))), (4, .int ((128 : Int32))), (0, .ref (a 0)), (1, .int (x1)), (2, .int (x2)), (3, .int (x3))] := hl
      refine lv_iload_n hx hb d_Mdl_changed_29 rfl (lv_at hl 3 rfl) ?_
      refine lv_iconst (v := (2 : Int32)) hx hb d_Mdl_changed_30 (by decide) ?_
      refine lv_icmp_ge (tgt := 53) hx hb d_Mdl_changed_31 rfl (fun h145 => ?_) (fun h145 => ?_)
      ·
        refine lv_iload_n hx hb d_Mdl_changed_53 rfl (lv_at hl 3 rfl) ?_
        refine lv_iconst (v := (4 : Int32)) hx hb d_Mdl_changed_54 (by decide) ?_
        refine lv_icmp_ge (tgt := 96) hx hb d_Mdl_changed_55 rfl (fun h146 => ?_) (fun h146 => ?_)
        ·
          refine lv_aload_n hx hb d_Mdl_changed_96 rfl (lv_at hl 2 rfl) ?_
          refine lv_iconst (v := (1 : Int32)) hx hb d_Mdl_changed_97 (by decide) ?_
          refine lv_iload_n hx hb d_Mdl_changed_98 rfl (lv_at hl 4 rfl) ?_
          refine lv_iconst (v := (1 : Int32)) hx hb d_Mdl_changed_99 (by decide) ?_
          refine lv_iand hx hb d_Mdl_changed_100 ?_
          refine lv_if_eq (tgt := 108) hx hb d_Mdl_changed_101 rfl (fun h147 => ?_) (fun h147 => ?_)
          ·
            refine lv_iconst (v := (0 : Int32)) hx hb d_Mdl_changed_108 (by decide) ?_
            refine kv_s (rest := []) X hP hS (c_Mdl_flag l D cB cI a bz ha S (1 : Int32) (0 : Int32)) (kw_Mdl_flag hts q_682 ⟨Nat.le_of_ble_eq_true rfl, Nat.le_of_ble_eq_true rfl⟩) 0 rfl rfl rfl hl.1 rfl (lv_room (Nat.le_of_ble_eq_true rfl)) d_Mdl_changed_109 (fun S148 H locs e149 hP hS => ?_)
            refine lv_aload_n hx hb d_Mdl_changed_112 rfl (lv_at hl 2 rfl) ?_
            refine lv_iload_n hx hb d_Mdl_changed_113 rfl (lv_at hl 4 rfl) ?_
            refine lv_iconst (v := (2 : Int32)) hx hb d_Mdl_changed_114 (by decide) ?_
            refine lv_idiv hx hb d_Mdl_changed_115 (by decide) ?_
            refine lv_iload_n hx hb d_Mdl_changed_116 rfl (lv_at hl 3 rfl) ?_
            refine lv_iconst (v := (5 : Int32)) hx hb d_Mdl_changed_117 (by decide) ?_
            refine lv_icmp_ne (tgt := 129) hx hb d_Mdl_changed_118 rfl (fun h150 => ?_) (fun h150 => ?_)
            ·
              refine lv_iconst (v := (0 : Int32)) hx hb d_Mdl_changed_129 (by decide) ?_
              refine lv_iadd hx hb d_Mdl_changed_130 ?_
              refine lv_iload_n hx hb d_Mdl_changed_131 rfl (lv_at hl 5 rfl) ?_
              refine kv_vs (rest := []) X hP hS (c_Mdl_result l D cB cI a bz ha S148 ((x2 / (2 : Int32)) + (0 : Int32)) x3) (kw_Mdl_result hts q_749 ⟨Nat.le_of_ble_eq_true rfl, Nat.le_of_ble_eq_true rfl⟩) 0 rfl rfl rfl hl.1 rfl (lv_room (Nat.le_of_ble_eq_true rfl)) d_Mdl_changed_132 (fun r151 S152 H locs e153 hP hS => ?_)
              exact rt_vs X hr hk hP hS (by rw [f_Mdl_changed, if_neg h1, if_neg h97, if_pos h145, if_pos h146, if_pos h147, bs_eq e149, if_neg h150, bn_eq e153]) d_Mdl_changed_135
            ·
              refine lv_iload hx hb d_Mdl_changed_121 (lv_at hl 0 rfl) ?_
              refine lv_iload hx hb d_Mdl_changed_123 (lv_at hl 1 rfl) ?_
              refine lv_imul hx hb d_Mdl_changed_125 ?_
              refine lv_goto (tgt := 130) hx hb d_Mdl_changed_126 rfl ?_
              refine lv_iadd hx hb d_Mdl_changed_130 ?_
              refine lv_iload_n hx hb d_Mdl_changed_131 rfl (lv_at hl 5 rfl) ?_
              refine kv_vs (rest := []) X hP hS (c_Mdl_result l D cB cI a bz ha S148 ((x2 / (2 : Int32)) + ((1 : Int32) * (128 : Int32))) x3) (kw_Mdl_result hts q_749 ⟨Nat.le_of_ble_eq_true rfl, Nat.le_of_ble_eq_true rfl⟩) 0 rfl rfl rfl hl.1 rfl (lv_room (Nat.le_of_ble_eq_true rfl)) d_Mdl_changed_132 (fun r154 S155 H locs e156 hP hS => ?_)
              exact rt_vs X hr hk hP hS (by rw [f_Mdl_changed, if_neg h1, if_neg h97, if_pos h145, if_pos h146, if_pos h147, bs_eq e149, if_pos h150, bn_eq e156]) d_Mdl_changed_135
          ·
            refine lv_iconst (v := (1 : Int32)) hx hb d_Mdl_changed_104 (by decide) ?_
            refine lv_goto (tgt := 109) hx hb d_Mdl_changed_105 rfl ?_
            refine kv_s (rest := []) X hP hS (c_Mdl_flag l D cB cI a bz ha S (1 : Int32) (1 : Int32)) (kw_Mdl_flag hts q_682 ⟨Nat.le_of_ble_eq_true rfl, Nat.le_of_ble_eq_true rfl⟩) 0 rfl rfl rfl hl.1 rfl (lv_room (Nat.le_of_ble_eq_true rfl)) d_Mdl_changed_109 (fun S157 H locs e158 hP hS => ?_)
            refine lv_aload_n hx hb d_Mdl_changed_112 rfl (lv_at hl 2 rfl) ?_
            refine lv_iload_n hx hb d_Mdl_changed_113 rfl (lv_at hl 4 rfl) ?_
            refine lv_iconst (v := (2 : Int32)) hx hb d_Mdl_changed_114 (by decide) ?_
            refine lv_idiv hx hb d_Mdl_changed_115 (by decide) ?_
            refine lv_iload_n hx hb d_Mdl_changed_116 rfl (lv_at hl 3 rfl) ?_
            refine lv_iconst (v := (5 : Int32)) hx hb d_Mdl_changed_117 (by decide) ?_
            refine lv_icmp_ne (tgt := 129) hx hb d_Mdl_changed_118 rfl (fun h159 => ?_) (fun h159 => ?_)
            ·
              refine lv_iconst (v := (0 : Int32)) hx hb d_Mdl_changed_129 (by decide) ?_
              refine lv_iadd hx hb d_Mdl_changed_130 ?_
              refine lv_iload_n hx hb d_Mdl_changed_131 rfl (lv_at hl 5 rfl) ?_
              refine kv_vs (rest := []) X hP hS (c_Mdl_result l D cB cI a bz ha S157 ((x2 / (2 : Int32)) + (0 : Int32)) x3) (kw_Mdl_result hts q_749 ⟨Nat.le_of_ble_eq_true rfl, Nat.le_of_ble_eq_true rfl⟩) 0 rfl rfl rfl hl.1 rfl (lv_room (Nat.le_of_ble_eq_true rfl)) d_Mdl_changed_132 (fun r160 S161 H locs e162 hP hS => ?_)
              exact rt_vs X hr hk hP hS (by rw [f_Mdl_changed, if_neg h1, if_neg h97, if_pos h145, if_pos h146, if_neg h147, bs_eq e158, if_neg h159, bn_eq e162]) d_Mdl_changed_135
            ·
              refine lv_iload hx hb d_Mdl_changed_121 (lv_at hl 0 rfl) ?_
              refine lv_iload hx hb d_Mdl_changed_123 (lv_at hl 1 rfl) ?_
              refine lv_imul hx hb d_Mdl_changed_125 ?_
              refine lv_goto (tgt := 130) hx hb d_Mdl_changed_126 rfl ?_
              refine lv_iadd hx hb d_Mdl_changed_130 ?_
              refine lv_iload_n hx hb d_Mdl_changed_131 rfl (lv_at hl 5 rfl) ?_
              refine kv_vs (rest := []) X hP hS (c_Mdl_result l D cB cI a bz ha S157 ((x2 / (2 : Int32)) + ((1 : Int32) * (128 : Int32))) x3) (kw_Mdl_result hts q_749 ⟨Nat.le_of_ble_eq_true rfl, Nat.le_of_ble_eq_true rfl⟩) 0 rfl rfl rfl hl.1 rfl (lv_room (Nat.le_of_ble_eq_true rfl)) d_Mdl_changed_132 (fun r163 S164 H locs e165 hP hS => ?_)
              exact rt_vs X hr hk hP hS (by rw [f_Mdl_changed, if_neg h1, if_neg h97, if_pos h145, if_pos h146, if_neg h147, bs_eq e158, if_pos h159, bn_eq e165]) d_Mdl_changed_135
        ·
          refine lv_aload_n hx hb d_Mdl_changed_58 rfl (lv_at hl 2 rfl) ?_
          refine lv_iconst (v := (1 : Int32)) hx hb d_Mdl_changed_59 (by decide) ?_
          refine lv_iload_n hx hb d_Mdl_changed_60 rfl (lv_at hl 4 rfl) ?_
          refine lv_iload hx hb d_Mdl_changed_61 (lv_at hl 1 rfl) ?_
          refine lv_iand hx hb d_Mdl_changed_63 ?_
          refine lv_if_eq (tgt := 71) hx hb d_Mdl_changed_64 rfl (fun h166 => ?_) (fun h166 => ?_)
          ·
            refine lv_iconst (v := (0 : Int32)) hx hb d_Mdl_changed_71 (by decide) ?_
            refine kv_s (rest := []) X hP hS (c_Mdl_flag l D cB cI a bz ha S (1 : Int32) (0 : Int32)) (kw_Mdl_flag hts q_682 ⟨Nat.le_of_ble_eq_true rfl, Nat.le_of_ble_eq_true rfl⟩) 0 rfl rfl rfl hl.1 rfl (lv_room (Nat.le_of_ble_eq_true rfl)) d_Mdl_changed_72 (fun S167 H locs e168 hP hS => ?_)
            refine lv_aload_n hx hb d_Mdl_changed_75 rfl (lv_at hl 2 rfl) ?_
            refine lv_iconst (v := (2 : Int32)) hx hb d_Mdl_changed_76 (by decide) ?_
            refine lv_iload_n hx hb d_Mdl_changed_77 rfl (lv_at hl 4 rfl) ?_
            refine lv_imul hx hb d_Mdl_changed_78 ?_
            refine lv_iload_n hx hb d_Mdl_changed_79 rfl (lv_at hl 3 rfl) ?_
            refine lv_iconst (v := (3 : Int32)) hx hb d_Mdl_changed_80 (by decide) ?_
            refine lv_icmp_ne (tgt := 89) hx hb d_Mdl_changed_81 rfl (fun h169 => ?_) (fun h169 => ?_)
            ·
              refine lv_iconst (v := (0 : Int32)) hx hb d_Mdl_changed_89 (by decide) ?_
              refine lv_iadd hx hb d_Mdl_changed_90 ?_
              refine lv_iload_n hx hb d_Mdl_changed_91 rfl (lv_at hl 5 rfl) ?_
              refine kv_vs (rest := []) X hP hS (c_Mdl_result l D cB cI a bz ha S167 (((2 : Int32) * x2) + (0 : Int32)) x3) (kw_Mdl_result hts q_749 ⟨Nat.le_of_ble_eq_true rfl, Nat.le_of_ble_eq_true rfl⟩) 0 rfl rfl rfl hl.1 rfl (lv_room (Nat.le_of_ble_eq_true rfl)) d_Mdl_changed_92 (fun r170 S171 H locs e172 hP hS => ?_)
              exact rt_vs X hr hk hP hS (by rw [f_Mdl_changed, if_neg h1, if_neg h97, if_pos h145, if_neg h146, if_pos h166, bs_eq e168, if_neg h169, bn_eq e172]) d_Mdl_changed_95
            ·
              refine lv_iload hx hb d_Mdl_changed_84 (lv_at hl 0 rfl) ?_
              refine lv_goto (tgt := 90) hx hb d_Mdl_changed_86 rfl ?_
              refine lv_iadd hx hb d_Mdl_changed_90 ?_
              refine lv_iload_n hx hb d_Mdl_changed_91 rfl (lv_at hl 5 rfl) ?_
              refine kv_vs (rest := []) X hP hS (c_Mdl_result l D cB cI a bz ha S167 (((2 : Int32) * x2) + (1 : Int32)) x3) (kw_Mdl_result hts q_749 ⟨Nat.le_of_ble_eq_true rfl, Nat.le_of_ble_eq_true rfl⟩) 0 rfl rfl rfl hl.1 rfl (lv_room (Nat.le_of_ble_eq_true rfl)) d_Mdl_changed_92 (fun r173 S174 H locs e175 hP hS => ?_)
              exact rt_vs X hr hk hP hS (by rw [f_Mdl_changed, if_neg h1, if_neg h97, if_pos h145, if_neg h146, if_pos h166, bs_eq e168, if_pos h169, bn_eq e175]) d_Mdl_changed_95
          ·
            refine lv_iconst (v := (1 : Int32)) hx hb d_Mdl_changed_67 (by decide) ?_
            refine lv_goto (tgt := 72) hx hb d_Mdl_changed_68 rfl ?_
            refine kv_s (rest := []) X hP hS (c_Mdl_flag l D cB cI a bz ha S (1 : Int32) (1 : Int32)) (kw_Mdl_flag hts q_682 ⟨Nat.le_of_ble_eq_true rfl, Nat.le_of_ble_eq_true rfl⟩) 0 rfl rfl rfl hl.1 rfl (lv_room (Nat.le_of_ble_eq_true rfl)) d_Mdl_changed_72 (fun S176 H locs e177 hP hS => ?_)
            refine lv_aload_n hx hb d_Mdl_changed_75 rfl (lv_at hl 2 rfl) ?_
            refine lv_iconst (v := (2 : Int32)) hx hb d_Mdl_changed_76 (by decide) ?_
            refine lv_iload_n hx hb d_Mdl_changed_77 rfl (lv_at hl 4 rfl) ?_
            refine lv_imul hx hb d_Mdl_changed_78 ?_
            refine lv_iload_n hx hb d_Mdl_changed_79 rfl (lv_at hl 3 rfl) ?_
            refine lv_iconst (v := (3 : Int32)) hx hb d_Mdl_changed_80 (by decide) ?_
            refine lv_icmp_ne (tgt := 89) hx hb d_Mdl_changed_81 rfl (fun h178 => ?_) (fun h178 => ?_)
            ·
              refine lv_iconst (v := (0 : Int32)) hx hb d_Mdl_changed_89 (by decide) ?_
              refine lv_iadd hx hb d_Mdl_changed_90 ?_
              refine lv_iload_n hx hb d_Mdl_changed_91 rfl (lv_at hl 5 rfl) ?_
              refine kv_vs (rest := []) X hP hS (c_Mdl_result l D cB cI a bz ha S176 (((2 : Int32) * x2) + (0 : Int32)) x3) (kw_Mdl_result hts q_749 ⟨Nat.le_of_ble_eq_true rfl, Nat.le_of_ble_eq_true rfl⟩) 0 rfl rfl rfl hl.1 rfl (lv_room (Nat.le_of_ble_eq_true rfl)) d_Mdl_changed_92 (fun r179 S180 H locs e181 hP hS => ?_)
              exact rt_vs X hr hk hP hS (by rw [f_Mdl_changed, if_neg h1, if_neg h97, if_pos h145, if_neg h146, if_neg h166, bs_eq e177, if_neg h178, bn_eq e181]) d_Mdl_changed_95
            ·
              refine lv_iload hx hb d_Mdl_changed_84 (lv_at hl 0 rfl) ?_
              refine lv_goto (tgt := 90) hx hb d_Mdl_changed_86 rfl ?_
              refine lv_iadd hx hb d_Mdl_changed_90 ?_
              refine lv_iload_n hx hb d_Mdl_changed_91 rfl (lv_at hl 5 rfl) ?_
              refine kv_vs (rest := []) X hP hS (c_Mdl_result l D cB cI a bz ha S176 (((2 : Int32) * x2) + (1 : Int32)) x3) (kw_Mdl_result hts q_749 ⟨Nat.le_of_ble_eq_true rfl, Nat.le_of_ble_eq_true rfl⟩) 0 rfl rfl rfl hl.1 rfl (lv_room (Nat.le_of_ble_eq_true rfl)) d_Mdl_changed_92 (fun r182 S183 H locs e184 hP hS => ?_)
              exact rt_vs X hr hk hP hS (by rw [f_Mdl_changed, if_neg h1, if_neg h97, if_pos h145, if_neg h146, if_neg h166, bs_eq e177, if_pos h178, bn_eq e184]) d_Mdl_changed_95
      ·
        refine lv_aload_n hx hb d_Mdl_changed_34 rfl (lv_at hl 2 rfl) ?_
        refine lv_iload_n hx hb d_Mdl_changed_35 rfl (lv_at hl 3 rfl) ?_
        refine lv_if_ne (tgt := 45) hx hb d_Mdl_changed_36 rfl (fun h185 => ?_) (fun h185 => ?_)
        ·
          refine lv_iload_n hx hb d_Mdl_changed_45 rfl (lv_at hl 4 rfl) ?_
          refine lv_iconst (v := (1 : Int32)) hx hb d_Mdl_changed_46 (by decide) ?_
          refine lv_isub hx hb d_Mdl_changed_47 ?_
          refine lv_iload_n hx hb d_Mdl_changed_48 rfl (lv_at hl 5 rfl) ?_
          refine kv_vs (rest := []) X hP hS (c_Mdl_result l D cB cI a bz ha S (x2 - (1 : Int32)) x3) (kw_Mdl_result hts q_749 ⟨Nat.le_of_ble_eq_true rfl, Nat.le_of_ble_eq_true rfl⟩) 0 rfl rfl rfl hl.1 rfl (lv_room (Nat.le_of_ble_eq_true rfl)) d_Mdl_changed_49 (fun r186 S187 H locs e188 hP hS => ?_)
          exact rt_vs X hr hk hP hS (by rw [f_Mdl_changed, if_neg h1, if_neg h97, if_neg h145, if_neg h185, bn_eq e188]) d_Mdl_changed_52
        ·
          refine lv_iload_n hx hb d_Mdl_changed_39 rfl (lv_at hl 4 rfl) ?_
          refine lv_iconst (v := (1 : Int32)) hx hb d_Mdl_changed_40 (by decide) ?_
          refine lv_iadd hx hb d_Mdl_changed_41 ?_
          refine lv_goto (tgt := 48) hx hb d_Mdl_changed_42 rfl ?_
          refine lv_iload_n hx hb d_Mdl_changed_48 rfl (lv_at hl 5 rfl) ?_
          refine kv_vs (rest := []) X hP hS (c_Mdl_result l D cB cI a bz ha S (x2 + (1 : Int32)) x3) (kw_Mdl_result hts q_749 ⟨Nat.le_of_ble_eq_true rfl, Nat.le_of_ble_eq_true rfl⟩) 0 rfl rfl rfl hl.1 rfl (lv_room (Nat.le_of_ble_eq_true rfl)) d_Mdl_changed_49 (fun r189 S190 H locs e191 hP hS => ?_)
          exact rt_vs X hr hk hP hS (by rw [f_Mdl_changed, if_neg h1, if_neg h97, if_neg h145, if_pos h185, bn_eq e191]) d_Mdl_changed_52
set_option maxHeartbeats 4000000 in
set_option maxRecDepth 100000 in
theorem c_Mdl_changeMemory (l : Launch) (D : va_G) (cB cI : ClassId) (a : Nat → Nat) (bz : Nat) (ha : ap a 3) (S : Sc) (x1 x2 : Int32) : MV l y_Mdl_changeMemory b_Mdl_changeMemory 4 rm_Mdl_changeMemory [.ref (a 0), .int x1, .int x2] D cB cI (wdT cI a) (ow a 3) bz S (f_Mdl_changeMemory S x1 x2) := by
  refine met_in R_Mdl (by decide) rfl (Nat.le_of_ble_eq_true rfl) (wdT_D ha cI) ?_
  intro p e s m below meth c ls X hr hk hl hP hS
  have hx := X.1.1
  have hb := X.1.2.1
  have hown := X.1.2.2.2.1
  have hts := X.1.2.2.2.2
  have hl : lv_has ls 4 [(0, .ref (a 0)), (1, .int x1), (2, .int x2)] := hl
  refine lv_aload_n hx hb d_Mdl_changeMemory_0 rfl (lv_at hl 0 rfl) ?_
  refine lv_bipush (v := (32 : Int32)) hx hb d_Mdl_changeMemory_1 (by decide) ?_
  refine kv_v (rest := []) X hP hS (c_Mdl_is l D cB cI a bz ha S (32 : Int32)) (kw_Mdl_is hts q_635 ⟨Nat.le_of_ble_eq_true rfl, Nat.le_of_ble_eq_true rfl⟩) 0 rfl rfl rfl hl.1 rfl (lv_room (Nat.le_of_ble_eq_true rfl)) d_Mdl_changeMemory_3 (fun H locs hP hS => ?_)
  refine lv_istore_n hx hb d_Mdl_changeMemory_6 rfl hl (Nat.le_of_ble_eq_true rfl) rfl (fun ls hl => ?_)
  have hl : lv_has ls 4 [(3, .int ((f_Mdl_is S (32 : Int32)))), (0, .ref (a 0)), (1, .int (x1)), (2, .int (x2))] := hl
  refine lv_iload_n hx hb d_Mdl_changeMemory_7 rfl (lv_at hl 3 rfl) ?_
  refine lv_if_eq (tgt := 30) hx hb d_Mdl_changeMemory_8 rfl (fun h1 => ?_) (fun h1 => ?_)
  ·
    refine lv_aload_n hx hb d_Mdl_changeMemory_30 rfl (lv_at hl 1 rfl) ?_
    refine lv_iconst (v := (0 : Int32)) hx hb d_Mdl_changeMemory_31 (by decide) ?_
    refine kv_s (rest := []) X hP hS (c_Mdl_direct l D cB cI a bz ha S (0 : Int32)) (kw_Mdl_direct hts q_712 ⟨Nat.le_of_ble_eq_true rfl, Nat.le_of_ble_eq_true rfl⟩) 0 rfl rfl rfl hl.1 rfl (lv_room (Nat.le_of_ble_eq_true rfl)) d_Mdl_changeMemory_32 (fun S2 H locs e3 hP hS => ?_)
    refine lv_aload_n hx hb d_Mdl_changeMemory_35 rfl (lv_at hl 1 rfl) ?_
    refine lv_aload_n hx hb d_Mdl_changeMemory_36 rfl (lv_at hl 1 rfl) ?_
    refine lv_iload_n hx hb d_Mdl_changeMemory_37 rfl (lv_at hl 2 rfl) ?_
    refine lv_aload_n hx hb d_Mdl_changeMemory_38 rfl (lv_at hl 1 rfl) ?_
    refine lv_iload_n hx hb d_Mdl_changeMemory_39 rfl (lv_at hl 0 rfl) ?_
    refine kv_vs (rest := [.int (x1), .ref (a 0), .ref (a 0)]) X hP hS (c_Mdl_load l D cB cI a bz ha S2 (f_Mdl_is S (32 : Int32))) (kw_Mdl_load hts q_740 ⟨Nat.le_of_ble_eq_true rfl, Nat.le_of_ble_eq_true rfl⟩) 0 rfl rfl rfl hl.1 rfl (lv_room (Nat.le_of_ble_eq_true rfl)) d_Mdl_changeMemory_40 (fun r4 S5 H locs e6 hP hS => ?_)
    refine lv_iload_n hx hb d_Mdl_changeMemory_43 rfl (lv_at hl 0 rfl) ?_
    refine kv_vs (rest := [.ref (a 0)]) X hP hS (c_Mdl_changed l D cB cI a bz ha S5 x1 r4 (f_Mdl_is S (32 : Int32))) (kw_Mdl_changed hts q_770 ⟨Nat.le_of_ble_eq_true rfl, Nat.le_of_ble_eq_true rfl⟩) 0 rfl rfl rfl hl.1 rfl (lv_room (Nat.le_of_ble_eq_true rfl)) d_Mdl_changeMemory_44 (fun r7 S8 H locs e9 hP hS => ?_)
    refine lv_iload_n hx hb d_Mdl_changeMemory_47 rfl (lv_at hl 0 rfl) ?_
    refine kv_s (rest := []) X hP hS (c_Mdl_store l D cB cI a bz ha S8 r7 (f_Mdl_is S (32 : Int32))) (kw_Mdl_store hts q_732 ⟨Nat.le_of_ble_eq_true rfl, Nat.le_of_ble_eq_true rfl⟩) 0 rfl rfl rfl hl.1 rfl (lv_room (Nat.le_of_ble_eq_true rfl)) d_Mdl_changeMemory_48 (fun S10 H locs e11 hP hS => ?_)
    exact rt_s X hr hk hP hS (by rw [f_Mdl_changeMemory, if_pos h1, bs_eq e3, bn_eq e6, bn_eq e9, bs_eq e11]) d_Mdl_changeMemory_51
  ·
    refine lv_aload_n hx hb d_Mdl_changeMemory_11 rfl (lv_at hl 1 rfl) ?_
    refine lv_aload_n hx hb d_Mdl_changeMemory_12 rfl (lv_at hl 1 rfl) ?_
    refine gt_Mdl X hP 6 (by decide) (v := .int (S.1 5)) q_569 rfl d_Mdl_changeMemory_13 ?_
    refine lv_bipush (v := (16 : Int32)) hx hb d_Mdl_changeMemory_16 (by decide) ?_
    refine lv_ishl hx hb d_Mdl_changeMemory_18 ?_
    refine lv_aload_n hx hb d_Mdl_changeMemory_19 rfl (lv_at hl 1 rfl) ?_
    refine kv_vs (rest := [.int (((S.1 5) <<< ((16 : Int32) &&& 31))), .ref (a 0)]) X hP hS (c_Mdl_nextWord l D cB cI a bz ha S) (kw_Mdl_nextWord hts q_716 ⟨Nat.le_of_ble_eq_true rfl, Nat.le_of_ble_eq_true rfl⟩) 0 rfl rfl rfl hl.1 rfl (lv_room (Nat.le_of_ble_eq_true rfl)) d_Mdl_changeMemory_20 (fun r12 S13 H locs e14 hP hS => ?_)
    refine lv_iadd hx hb d_Mdl_changeMemory_23 ?_
    refine kv_s (rest := []) X hP hS (c_Mdl_far l D cB cI a bz ha S13 (((S.1 5) <<< ((16 : Int32) &&& 31)) + r12)) (kw_Mdl_far hts q_720 ⟨Nat.le_of_ble_eq_true rfl, Nat.le_of_ble_eq_true rfl⟩) 0 rfl rfl rfl hl.1 rfl (lv_room (Nat.le_of_ble_eq_true rfl)) d_Mdl_changeMemory_24 (fun S15 H locs e16 hP hS => ?_)
    refine lv_goto (tgt := 35) hx hb d_Mdl_changeMemory_27 rfl ?_
    refine lv_aload_n hx hb d_Mdl_changeMemory_35 rfl (lv_at hl 1 rfl) ?_
    refine lv_aload_n hx hb d_Mdl_changeMemory_36 rfl (lv_at hl 1 rfl) ?_
    refine lv_iload_n hx hb d_Mdl_changeMemory_37 rfl (lv_at hl 2 rfl) ?_
    refine lv_aload_n hx hb d_Mdl_changeMemory_38 rfl (lv_at hl 1 rfl) ?_
    refine lv_iload_n hx hb d_Mdl_changeMemory_39 rfl (lv_at hl 0 rfl) ?_
    refine kv_vs (rest := [.int (x1), .ref (a 0), .ref (a 0)]) X hP hS (c_Mdl_load l D cB cI a bz ha S15 (f_Mdl_is S (32 : Int32))) (kw_Mdl_load hts q_740 ⟨Nat.le_of_ble_eq_true rfl, Nat.le_of_ble_eq_true rfl⟩) 0 rfl rfl rfl hl.1 rfl (lv_room (Nat.le_of_ble_eq_true rfl)) d_Mdl_changeMemory_40 (fun r17 S18 H locs e19 hP hS => ?_)
    refine lv_iload_n hx hb d_Mdl_changeMemory_43 rfl (lv_at hl 0 rfl) ?_
    refine kv_vs (rest := [.ref (a 0)]) X hP hS (c_Mdl_changed l D cB cI a bz ha S18 x1 r17 (f_Mdl_is S (32 : Int32))) (kw_Mdl_changed hts q_770 ⟨Nat.le_of_ble_eq_true rfl, Nat.le_of_ble_eq_true rfl⟩) 0 rfl rfl rfl hl.1 rfl (lv_room (Nat.le_of_ble_eq_true rfl)) d_Mdl_changeMemory_44 (fun r20 S21 H locs e22 hP hS => ?_)
    refine lv_iload_n hx hb d_Mdl_changeMemory_47 rfl (lv_at hl 0 rfl) ?_
    refine kv_s (rest := []) X hP hS (c_Mdl_store l D cB cI a bz ha S21 r20 (f_Mdl_is S (32 : Int32))) (kw_Mdl_store hts q_732 ⟨Nat.le_of_ble_eq_true rfl, Nat.le_of_ble_eq_true rfl⟩) 0 rfl rfl rfl hl.1 rfl (lv_room (Nat.le_of_ble_eq_true rfl)) d_Mdl_changeMemory_48 (fun S23 H locs e24 hP hS => ?_)
    exact rt_s X hr hk hP hS (by rw [f_Mdl_changeMemory, if_neg h1, bn_eq e14, bs_eq e16, bn_eq e19, bn_eq e22, bs_eq e24]) d_Mdl_changeMemory_51
set_option maxHeartbeats 4000000 in
set_option maxRecDepth 100000 in
theorem c_Mdl_change (l : Launch) (D : va_G) (cB cI : ClassId) (a : Nat → Nat) (bz : Nat) (ha : ap a 3) (S : Sc) (x1 : Int32) : MI l y_Mdl_change b_Mdl_change 2 (some .boolean) rm_Mdl_change [.ref (a 0), .int x1] D cB cI (wdT cI a) (ow a 3) bz S (f_Mdl_change S x1) := by
  refine met_in R_Mdl (by decide) rfl (Nat.le_of_ble_eq_true rfl) (wdT_D ha cI) ?_
  intro p e s m below meth c ls X hr hk hl hP hS
  have hx := X.1.1
  have hb := X.1.2.1
  have hown := X.1.2.2.2.1
  have hts := X.1.2.2.2.2
  have hl : lv_has ls 2 [(0, .ref (a 0)), (1, .int x1)] := hl
  refine lv_iload_n hx hb d_Mdl_change_0 rfl (lv_at hl 1 rfl) ?_
  by_cases h1 : x1 = (6 : Int32)
  ·
    refine sw_l (k := (6 : Int32)) (tgt := 160) hx hb d_Mdl_change_1 h1 rfl ?_
    refine lv_aload_n hx hb d_Mdl_change_160 rfl (lv_at hl 0 rfl) ?_
    refine lv_iconst (v := (2 : Int32)) hx hb d_Mdl_change_161 (by decide) ?_
    refine lv_iconst (v := (0 : Int32)) hx hb d_Mdl_change_162 (by decide) ?_
    refine kv_s (rest := []) X hP hS (c_Mdl_changeMemory l D cB cI a bz ha S (2 : Int32) (0 : Int32)) (kw_Mdl_changeMemory hts q_766 ⟨Nat.le_of_ble_eq_true rfl, Nat.le_of_ble_eq_true rfl⟩) 0 rfl rfl rfl hl.1 rfl (lv_room (Nat.le_of_ble_eq_true rfl)) d_Mdl_change_163 (fun S2 H locs e3 hP hS => ?_)
    refine lv_goto (tgt := 330) hx hb d_Mdl_change_166 rfl ?_
    refine lv_iconst (v := (1 : Int32)) hx hb d_Mdl_change_330 (by decide) ?_
    exact rt_z X hr hk hP hS (by decide) (by rw [f_Mdl_change, if_pos h1, bs_eq e3]) d_Mdl_change_331
  ·
    by_cases h4 : x1 = (10 : Int32)
    ·
      refine sw_l (k := (10 : Int32)) (tgt := 240) hx hb d_Mdl_change_1 h4 rfl ?_
      refine lv_aload_n hx hb d_Mdl_change_240 rfl (lv_at hl 0 rfl) ?_
      refine lv_aload_n hx hb d_Mdl_change_241 rfl (lv_at hl 0 rfl) ?_
      refine lv_iconst (v := (2 : Int32)) hx hb d_Mdl_change_242 (by decide) ?_
      refine lv_aload_n hx hb d_Mdl_change_243 rfl (lv_at hl 0 rfl) ?_
      refine kv_v (rest := [.int ((2 : Int32)), .ref (a 0), .ref (a 0)]) X hP hS (c_Mdl_accumulator l D cB cI a bz ha S) (kw_Mdl_accumulator hts q_728 ⟨Nat.le_of_ble_eq_true rfl, Nat.le_of_ble_eq_true rfl⟩) 0 rfl rfl rfl hl.1 rfl (lv_room (Nat.le_of_ble_eq_true rfl)) d_Mdl_change_244 (fun H locs hP hS => ?_)
      refine lv_aload_n hx hb d_Mdl_change_247 rfl (lv_at hl 0 rfl) ?_
      refine lv_bipush (v := (32 : Int32)) hx hb d_Mdl_change_248 (by decide) ?_
      refine kv_v (rest := [.int ((f_Mdl_accumulator S)), .int ((2 : Int32)), .ref (a 0), .ref (a 0)]) X hP hS (c_Mdl_is l D cB cI a bz ha S (32 : Int32)) (kw_Mdl_is hts q_635 ⟨Nat.le_of_ble_eq_true rfl, Nat.le_of_ble_eq_true rfl⟩) 0 rfl rfl rfl hl.1 rfl (lv_room (Nat.le_of_ble_eq_true rfl)) d_Mdl_change_250 (fun H locs hP hS => ?_)
      refine kv_vs (rest := [.ref (a 0)]) X hP hS (c_Mdl_changed l D cB cI a bz ha S (2 : Int32) (f_Mdl_accumulator S) (f_Mdl_is S (32 : Int32))) (kw_Mdl_changed hts q_770 ⟨Nat.le_of_ble_eq_true rfl, Nat.le_of_ble_eq_true rfl⟩) 0 rfl rfl rfl hl.1 rfl (lv_room (Nat.le_of_ble_eq_true rfl)) d_Mdl_change_253 (fun r5 S6 H locs e7 hP hS => ?_)
      refine kv_s (rest := []) X hP hS (c_Mdl_setAccumulator l D cB cI a bz ha S6 r5) (kw_Mdl_setAccumulator hts q_753 ⟨Nat.le_of_ble_eq_true rfl, Nat.le_of_ble_eq_true rfl⟩) 0 rfl rfl rfl hl.1 rfl (lv_room (Nat.le_of_ble_eq_true rfl)) d_Mdl_change_256 (fun S8 H locs e9 hP hS => ?_)
      refine lv_goto (tgt := 330) hx hb d_Mdl_change_259 rfl ?_
      refine lv_iconst (v := (1 : Int32)) hx hb d_Mdl_change_330 (by decide) ?_
      exact rt_z X hr hk hP hS (by decide) (by rw [f_Mdl_change, if_neg h1, if_pos h4, bn_eq e7, bs_eq e9]) d_Mdl_change_331
    ·
      by_cases h10 : x1 = (26 : Int32)
      ·
        refine sw_l (k := (26 : Int32)) (tgt := 196) hx hb d_Mdl_change_1 h10 rfl ?_
        refine lv_aload_n hx hb d_Mdl_change_196 rfl (lv_at hl 0 rfl) ?_
        refine lv_aload_n hx hb d_Mdl_change_197 rfl (lv_at hl 0 rfl) ?_
        refine lv_iconst (v := (0 : Int32)) hx hb d_Mdl_change_198 (by decide) ?_
        refine lv_aload_n hx hb d_Mdl_change_199 rfl (lv_at hl 0 rfl) ?_
        refine kv_v (rest := [.int ((0 : Int32)), .ref (a 0), .ref (a 0)]) X hP hS (c_Mdl_accumulator l D cB cI a bz ha S) (kw_Mdl_accumulator hts q_728 ⟨Nat.le_of_ble_eq_true rfl, Nat.le_of_ble_eq_true rfl⟩) 0 rfl rfl rfl hl.1 rfl (lv_room (Nat.le_of_ble_eq_true rfl)) d_Mdl_change_200 (fun H locs hP hS => ?_)
        refine lv_aload_n hx hb d_Mdl_change_203 rfl (lv_at hl 0 rfl) ?_
        refine lv_bipush (v := (32 : Int32)) hx hb d_Mdl_change_204 (by decide) ?_
        refine kv_v (rest := [.int ((f_Mdl_accumulator S)), .int ((0 : Int32)), .ref (a 0), .ref (a 0)]) X hP hS (c_Mdl_is l D cB cI a bz ha S (32 : Int32)) (kw_Mdl_is hts q_635 ⟨Nat.le_of_ble_eq_true rfl, Nat.le_of_ble_eq_true rfl⟩) 0 rfl rfl rfl hl.1 rfl (lv_room (Nat.le_of_ble_eq_true rfl)) d_Mdl_change_206 (fun H locs hP hS => ?_)
        refine kv_vs (rest := [.ref (a 0)]) X hP hS (c_Mdl_changed l D cB cI a bz ha S (0 : Int32) (f_Mdl_accumulator S) (f_Mdl_is S (32 : Int32))) (kw_Mdl_changed hts q_770 ⟨Nat.le_of_ble_eq_true rfl, Nat.le_of_ble_eq_true rfl⟩) 0 rfl rfl rfl hl.1 rfl (lv_room (Nat.le_of_ble_eq_true rfl)) d_Mdl_change_209 (fun r11 S12 H locs e13 hP hS => ?_)
        refine kv_s (rest := []) X hP hS (c_Mdl_setAccumulator l D cB cI a bz ha S12 r11) (kw_Mdl_setAccumulator hts q_753 ⟨Nat.le_of_ble_eq_true rfl, Nat.le_of_ble_eq_true rfl⟩) 0 rfl rfl rfl hl.1 rfl (lv_room (Nat.le_of_ble_eq_true rfl)) d_Mdl_change_212 (fun S14 H locs e15 hP hS => ?_)
        refine lv_goto (tgt := 330) hx hb d_Mdl_change_215 rfl ?_
        refine lv_iconst (v := (1 : Int32)) hx hb d_Mdl_change_330 (by decide) ?_
        exact rt_z X hr hk hP hS (by decide) (by rw [f_Mdl_change, if_neg h1, if_neg h4, if_pos h10, bn_eq e13, bs_eq e15]) d_Mdl_change_331
      ·
        by_cases h16 : x1 = (38 : Int32)
        ·
          refine sw_l (k := (38 : Int32)) (tgt := 169) hx hb d_Mdl_change_1 h16 rfl ?_
          refine lv_aload_n hx hb d_Mdl_change_169 rfl (lv_at hl 0 rfl) ?_
          refine lv_iconst (v := (3 : Int32)) hx hb d_Mdl_change_170 (by decide) ?_
          refine lv_iconst (v := (0 : Int32)) hx hb d_Mdl_change_171 (by decide) ?_
          refine kv_s (rest := []) X hP hS (c_Mdl_changeMemory l D cB cI a bz ha S (3 : Int32) (0 : Int32)) (kw_Mdl_changeMemory hts q_766 ⟨Nat.le_of_ble_eq_true rfl, Nat.le_of_ble_eq_true rfl⟩) 0 rfl rfl rfl hl.1 rfl (lv_room (Nat.le_of_ble_eq_true rfl)) d_Mdl_change_172 (fun S17 H locs e18 hP hS => ?_)
          refine lv_goto (tgt := 330) hx hb d_Mdl_change_175 rfl ?_
          refine lv_iconst (v := (1 : Int32)) hx hb d_Mdl_change_330 (by decide) ?_
          exact rt_z X hr hk hP hS (by decide) (by rw [f_Mdl_change, if_neg h1, if_neg h4, if_neg h10, if_pos h16, bs_eq e18]) d_Mdl_change_331
        ·
          by_cases h19 : x1 = (42 : Int32)
          ·
            refine sw_l (k := (42 : Int32)) (tgt := 262) hx hb d_Mdl_change_1 h19 rfl ?_
            refine lv_aload_n hx hb d_Mdl_change_262 rfl (lv_at hl 0 rfl) ?_
            refine lv_aload_n hx hb d_Mdl_change_263 rfl (lv_at hl 0 rfl) ?_
            refine lv_iconst (v := (3 : Int32)) hx hb d_Mdl_change_264 (by decide) ?_
            refine lv_aload_n hx hb d_Mdl_change_265 rfl (lv_at hl 0 rfl) ?_
            refine kv_v (rest := [.int ((3 : Int32)), .ref (a 0), .ref (a 0)]) X hP hS (c_Mdl_accumulator l D cB cI a bz ha S) (kw_Mdl_accumulator hts q_728 ⟨Nat.le_of_ble_eq_true rfl, Nat.le_of_ble_eq_true rfl⟩) 0 rfl rfl rfl hl.1 rfl (lv_room (Nat.le_of_ble_eq_true rfl)) d_Mdl_change_266 (fun H locs hP hS => ?_)
            refine lv_aload_n hx hb d_Mdl_change_269 rfl (lv_at hl 0 rfl) ?_
            refine lv_bipush (v := (32 : Int32)) hx hb d_Mdl_change_270 (by decide) ?_
            refine kv_v (rest := [.int ((f_Mdl_accumulator S)), .int ((3 : Int32)), .ref (a 0), .ref (a 0)]) X hP hS (c_Mdl_is l D cB cI a bz ha S (32 : Int32)) (kw_Mdl_is hts q_635 ⟨Nat.le_of_ble_eq_true rfl, Nat.le_of_ble_eq_true rfl⟩) 0 rfl rfl rfl hl.1 rfl (lv_room (Nat.le_of_ble_eq_true rfl)) d_Mdl_change_272 (fun H locs hP hS => ?_)
            refine kv_vs (rest := [.ref (a 0)]) X hP hS (c_Mdl_changed l D cB cI a bz ha S (3 : Int32) (f_Mdl_accumulator S) (f_Mdl_is S (32 : Int32))) (kw_Mdl_changed hts q_770 ⟨Nat.le_of_ble_eq_true rfl, Nat.le_of_ble_eq_true rfl⟩) 0 rfl rfl rfl hl.1 rfl (lv_room (Nat.le_of_ble_eq_true rfl)) d_Mdl_change_275 (fun r20 S21 H locs e22 hP hS => ?_)
            refine kv_s (rest := []) X hP hS (c_Mdl_setAccumulator l D cB cI a bz ha S21 r20) (kw_Mdl_setAccumulator hts q_753 ⟨Nat.le_of_ble_eq_true rfl, Nat.le_of_ble_eq_true rfl⟩) 0 rfl rfl rfl hl.1 rfl (lv_room (Nat.le_of_ble_eq_true rfl)) d_Mdl_change_278 (fun S23 H locs e24 hP hS => ?_)
            refine lv_goto (tgt := 330) hx hb d_Mdl_change_281 rfl ?_
            refine lv_iconst (v := (1 : Int32)) hx hb d_Mdl_change_330 (by decide) ?_
            exact rt_z X hr hk hP hS (by decide) (by rw [f_Mdl_change, if_neg h1, if_neg h4, if_neg h10, if_neg h16, if_pos h19, bn_eq e22, bs_eq e24]) d_Mdl_change_331
          ·
            by_cases h25 : x1 = (58 : Int32)
            ·
              refine sw_l (k := (58 : Int32)) (tgt := 218) hx hb d_Mdl_change_1 h25 rfl ?_
              refine lv_aload_n hx hb d_Mdl_change_218 rfl (lv_at hl 0 rfl) ?_
              refine lv_aload_n hx hb d_Mdl_change_219 rfl (lv_at hl 0 rfl) ?_
              refine lv_iconst (v := (1 : Int32)) hx hb d_Mdl_change_220 (by decide) ?_
              refine lv_aload_n hx hb d_Mdl_change_221 rfl (lv_at hl 0 rfl) ?_
              refine kv_v (rest := [.int ((1 : Int32)), .ref (a 0), .ref (a 0)]) X hP hS (c_Mdl_accumulator l D cB cI a bz ha S) (kw_Mdl_accumulator hts q_728 ⟨Nat.le_of_ble_eq_true rfl, Nat.le_of_ble_eq_true rfl⟩) 0 rfl rfl rfl hl.1 rfl (lv_room (Nat.le_of_ble_eq_true rfl)) d_Mdl_change_222 (fun H locs hP hS => ?_)
              refine lv_aload_n hx hb d_Mdl_change_225 rfl (lv_at hl 0 rfl) ?_
              refine lv_bipush (v := (32 : Int32)) hx hb d_Mdl_change_226 (by decide) ?_
              refine kv_v (rest := [.int ((f_Mdl_accumulator S)), .int ((1 : Int32)), .ref (a 0), .ref (a 0)]) X hP hS (c_Mdl_is l D cB cI a bz ha S (32 : Int32)) (kw_Mdl_is hts q_635 ⟨Nat.le_of_ble_eq_true rfl, Nat.le_of_ble_eq_true rfl⟩) 0 rfl rfl rfl hl.1 rfl (lv_room (Nat.le_of_ble_eq_true rfl)) d_Mdl_change_228 (fun H locs hP hS => ?_)
              refine kv_vs (rest := [.ref (a 0)]) X hP hS (c_Mdl_changed l D cB cI a bz ha S (1 : Int32) (f_Mdl_accumulator S) (f_Mdl_is S (32 : Int32))) (kw_Mdl_changed hts q_770 ⟨Nat.le_of_ble_eq_true rfl, Nat.le_of_ble_eq_true rfl⟩) 0 rfl rfl rfl hl.1 rfl (lv_room (Nat.le_of_ble_eq_true rfl)) d_Mdl_change_231 (fun r26 S27 H locs e28 hP hS => ?_)
              refine kv_s (rest := []) X hP hS (c_Mdl_setAccumulator l D cB cI a bz ha S27 r26) (kw_Mdl_setAccumulator hts q_753 ⟨Nat.le_of_ble_eq_true rfl, Nat.le_of_ble_eq_true rfl⟩) 0 rfl rfl rfl hl.1 rfl (lv_room (Nat.le_of_ble_eq_true rfl)) d_Mdl_change_234 (fun S29 H locs e30 hP hS => ?_)
              refine lv_goto (tgt := 330) hx hb d_Mdl_change_237 rfl ?_
              refine lv_iconst (v := (1 : Int32)) hx hb d_Mdl_change_330 (by decide) ?_
              exact rt_z X hr hk hP hS (by decide) (by rw [f_Mdl_change, if_neg h1, if_neg h4, if_neg h10, if_neg h16, if_neg h19, if_pos h25, bn_eq e28, bs_eq e30]) d_Mdl_change_331
            ·
              by_cases h31 : x1 = (70 : Int32)
              ·
                refine sw_l (k := (70 : Int32)) (tgt := 178) hx hb d_Mdl_change_1 h31 rfl ?_
                refine lv_aload_n hx hb d_Mdl_change_178 rfl (lv_at hl 0 rfl) ?_
                refine lv_iconst (v := (4 : Int32)) hx hb d_Mdl_change_179 (by decide) ?_
                refine lv_iconst (v := (0 : Int32)) hx hb d_Mdl_change_180 (by decide) ?_
                refine kv_s (rest := []) X hP hS (c_Mdl_changeMemory l D cB cI a bz ha S (4 : Int32) (0 : Int32)) (kw_Mdl_changeMemory hts q_766 ⟨Nat.le_of_ble_eq_true rfl, Nat.le_of_ble_eq_true rfl⟩) 0 rfl rfl rfl hl.1 rfl (lv_room (Nat.le_of_ble_eq_true rfl)) d_Mdl_change_181 (fun S32 H locs e33 hP hS => ?_)
                refine lv_goto (tgt := 330) hx hb d_Mdl_change_184 rfl ?_
                refine lv_iconst (v := (1 : Int32)) hx hb d_Mdl_change_330 (by decide) ?_
                exact rt_z X hr hk hP hS (by decide) (by rw [f_Mdl_change, if_neg h1, if_neg h4, if_neg h10, if_neg h16, if_neg h19, if_neg h25, if_pos h31, bs_eq e33]) d_Mdl_change_331
              ·
                by_cases h34 : x1 = (74 : Int32)
                ·
                  refine sw_l (k := (74 : Int32)) (tgt := 284) hx hb d_Mdl_change_1 h34 rfl ?_
                  refine lv_aload_n hx hb d_Mdl_change_284 rfl (lv_at hl 0 rfl) ?_
                  refine lv_aload_n hx hb d_Mdl_change_285 rfl (lv_at hl 0 rfl) ?_
                  refine lv_iconst (v := (4 : Int32)) hx hb d_Mdl_change_286 (by decide) ?_
                  refine lv_aload_n hx hb d_Mdl_change_287 rfl (lv_at hl 0 rfl) ?_
                  refine kv_v (rest := [.int ((4 : Int32)), .ref (a 0), .ref (a 0)]) X hP hS (c_Mdl_accumulator l D cB cI a bz ha S) (kw_Mdl_accumulator hts q_728 ⟨Nat.le_of_ble_eq_true rfl, Nat.le_of_ble_eq_true rfl⟩) 0 rfl rfl rfl hl.1 rfl (lv_room (Nat.le_of_ble_eq_true rfl)) d_Mdl_change_288 (fun H locs hP hS => ?_)
                  refine lv_aload_n hx hb d_Mdl_change_291 rfl (lv_at hl 0 rfl) ?_
                  refine lv_bipush (v := (32 : Int32)) hx hb d_Mdl_change_292 (by decide) ?_
                  refine kv_v (rest := [.int ((f_Mdl_accumulator S)), .int ((4 : Int32)), .ref (a 0), .ref (a 0)]) X hP hS (c_Mdl_is l D cB cI a bz ha S (32 : Int32)) (kw_Mdl_is hts q_635 ⟨Nat.le_of_ble_eq_true rfl, Nat.le_of_ble_eq_true rfl⟩) 0 rfl rfl rfl hl.1 rfl (lv_room (Nat.le_of_ble_eq_true rfl)) d_Mdl_change_294 (fun H locs hP hS => ?_)
                  refine kv_vs (rest := [.ref (a 0)]) X hP hS (c_Mdl_changed l D cB cI a bz ha S (4 : Int32) (f_Mdl_accumulator S) (f_Mdl_is S (32 : Int32))) (kw_Mdl_changed hts q_770 ⟨Nat.le_of_ble_eq_true rfl, Nat.le_of_ble_eq_true rfl⟩) 0 rfl rfl rfl hl.1 rfl (lv_room (Nat.le_of_ble_eq_true rfl)) d_Mdl_change_297 (fun r35 S36 H locs e37 hP hS => ?_)
                  refine kv_s (rest := []) X hP hS (c_Mdl_setAccumulator l D cB cI a bz ha S36 r35) (kw_Mdl_setAccumulator hts q_753 ⟨Nat.le_of_ble_eq_true rfl, Nat.le_of_ble_eq_true rfl⟩) 0 rfl rfl rfl hl.1 rfl (lv_room (Nat.le_of_ble_eq_true rfl)) d_Mdl_change_300 (fun S38 H locs e39 hP hS => ?_)
                  refine lv_goto (tgt := 330) hx hb d_Mdl_change_303 rfl ?_
                  refine lv_iconst (v := (1 : Int32)) hx hb d_Mdl_change_330 (by decide) ?_
                  exact rt_z X hr hk hP hS (by decide) (by rw [f_Mdl_change, if_neg h1, if_neg h4, if_neg h10, if_neg h16, if_neg h19, if_neg h25, if_neg h31, if_pos h34, bn_eq e37, bs_eq e39]) d_Mdl_change_331
                ·
                  by_cases h40 : x1 = (102 : Int32)
                  ·
                    refine sw_l (k := (102 : Int32)) (tgt := 187) hx hb d_Mdl_change_1 h40 rfl ?_
                    refine lv_aload_n hx hb d_Mdl_change_187 rfl (lv_at hl 0 rfl) ?_
                    refine lv_iconst (v := (5 : Int32)) hx hb d_Mdl_change_188 (by decide) ?_
                    refine lv_iconst (v := (0 : Int32)) hx hb d_Mdl_change_189 (by decide) ?_
                    refine kv_s (rest := []) X hP hS (c_Mdl_changeMemory l D cB cI a bz ha S (5 : Int32) (0 : Int32)) (kw_Mdl_changeMemory hts q_766 ⟨Nat.le_of_ble_eq_true rfl, Nat.le_of_ble_eq_true rfl⟩) 0 rfl rfl rfl hl.1 rfl (lv_room (Nat.le_of_ble_eq_true rfl)) d_Mdl_change_190 (fun S41 H locs e42 hP hS => ?_)
                    refine lv_goto (tgt := 330) hx hb d_Mdl_change_193 rfl ?_
                    refine lv_iconst (v := (1 : Int32)) hx hb d_Mdl_change_330 (by decide) ?_
                    exact rt_z X hr hk hP hS (by decide) (by rw [f_Mdl_change, if_neg h1, if_neg h4, if_neg h10, if_neg h16, if_neg h19, if_neg h25, if_neg h31, if_neg h34, if_pos h40, bs_eq e42]) d_Mdl_change_331
                  ·
                    by_cases h43 : x1 = (106 : Int32)
                    ·
                      refine sw_l (k := (106 : Int32)) (tgt := 306) hx hb d_Mdl_change_1 h43 rfl ?_
                      refine lv_aload_n hx hb d_Mdl_change_306 rfl (lv_at hl 0 rfl) ?_
                      refine lv_aload_n hx hb d_Mdl_change_307 rfl (lv_at hl 0 rfl) ?_
                      refine lv_iconst (v := (5 : Int32)) hx hb d_Mdl_change_308 (by decide) ?_
                      refine lv_aload_n hx hb d_Mdl_change_309 rfl (lv_at hl 0 rfl) ?_
                      refine kv_v (rest := [.int ((5 : Int32)), .ref (a 0), .ref (a 0)]) X hP hS (c_Mdl_accumulator l D cB cI a bz ha S) (kw_Mdl_accumulator hts q_728 ⟨Nat.le_of_ble_eq_true rfl, Nat.le_of_ble_eq_true rfl⟩) 0 rfl rfl rfl hl.1 rfl (lv_room (Nat.le_of_ble_eq_true rfl)) d_Mdl_change_310 (fun H locs hP hS => ?_)
                      refine lv_aload_n hx hb d_Mdl_change_313 rfl (lv_at hl 0 rfl) ?_
                      refine lv_bipush (v := (32 : Int32)) hx hb d_Mdl_change_314 (by decide) ?_
                      refine kv_v (rest := [.int ((f_Mdl_accumulator S)), .int ((5 : Int32)), .ref (a 0), .ref (a 0)]) X hP hS (c_Mdl_is l D cB cI a bz ha S (32 : Int32)) (kw_Mdl_is hts q_635 ⟨Nat.le_of_ble_eq_true rfl, Nat.le_of_ble_eq_true rfl⟩) 0 rfl rfl rfl hl.1 rfl (lv_room (Nat.le_of_ble_eq_true rfl)) d_Mdl_change_316 (fun H locs hP hS => ?_)
                      refine kv_vs (rest := [.ref (a 0)]) X hP hS (c_Mdl_changed l D cB cI a bz ha S (5 : Int32) (f_Mdl_accumulator S) (f_Mdl_is S (32 : Int32))) (kw_Mdl_changed hts q_770 ⟨Nat.le_of_ble_eq_true rfl, Nat.le_of_ble_eq_true rfl⟩) 0 rfl rfl rfl hl.1 rfl (lv_room (Nat.le_of_ble_eq_true rfl)) d_Mdl_change_319 (fun r44 S45 H locs e46 hP hS => ?_)
                      refine kv_s (rest := []) X hP hS (c_Mdl_setAccumulator l D cB cI a bz ha S45 r44) (kw_Mdl_setAccumulator hts q_753 ⟨Nat.le_of_ble_eq_true rfl, Nat.le_of_ble_eq_true rfl⟩) 0 rfl rfl rfl hl.1 rfl (lv_room (Nat.le_of_ble_eq_true rfl)) d_Mdl_change_322 (fun S47 H locs e48 hP hS => ?_)
                      refine lv_goto (tgt := 330) hx hb d_Mdl_change_325 rfl ?_
                      refine lv_iconst (v := (1 : Int32)) hx hb d_Mdl_change_330 (by decide) ?_
                      exact rt_z X hr hk hP hS (by decide) (by rw [f_Mdl_change, if_neg h1, if_neg h4, if_neg h10, if_neg h16, if_neg h19, if_neg h25, if_neg h31, if_neg h34, if_neg h40, if_pos h43, bn_eq e46, bs_eq e48]) d_Mdl_change_331
                    ·
                      by_cases h49 : x1 = (198 : Int32)
                      ·
                        refine sw_l (k := (198 : Int32)) (tgt := 142) hx hb d_Mdl_change_1 h49 rfl ?_
                        refine lv_aload_n hx hb d_Mdl_change_142 rfl (lv_at hl 0 rfl) ?_
                        refine lv_iconst (v := (1 : Int32)) hx hb d_Mdl_change_143 (by decide) ?_
                        refine lv_iconst (v := (0 : Int32)) hx hb d_Mdl_change_144 (by decide) ?_
                        refine kv_s (rest := []) X hP hS (c_Mdl_changeMemory l D cB cI a bz ha S (1 : Int32) (0 : Int32)) (kw_Mdl_changeMemory hts q_766 ⟨Nat.le_of_ble_eq_true rfl, Nat.le_of_ble_eq_true rfl⟩) 0 rfl rfl rfl hl.1 rfl (lv_room (Nat.le_of_ble_eq_true rfl)) d_Mdl_change_145 (fun S50 H locs e51 hP hS => ?_)
                        refine lv_goto (tgt := 330) hx hb d_Mdl_change_148 rfl ?_
                        refine lv_iconst (v := (1 : Int32)) hx hb d_Mdl_change_330 (by decide) ?_
                        exact rt_z X hr hk hP hS (by decide) (by rw [f_Mdl_change, if_neg h1, if_neg h4, if_neg h10, if_neg h16, if_neg h19, if_neg h25, if_neg h31, if_neg h34, if_neg h40, if_neg h43, if_pos h49, bs_eq e51]) d_Mdl_change_331
                      ·
                        by_cases h52 : x1 = (206 : Int32)
                        ·
                          refine sw_l (k := (206 : Int32)) (tgt := 151) hx hb d_Mdl_change_1 h52 rfl ?_
                          refine lv_aload_n hx hb d_Mdl_change_151 rfl (lv_at hl 0 rfl) ?_
                          refine lv_iconst (v := (1 : Int32)) hx hb d_Mdl_change_152 (by decide) ?_
                          refine lv_iconst (v := (1 : Int32)) hx hb d_Mdl_change_153 (by decide) ?_
                          refine kv_s (rest := []) X hP hS (c_Mdl_changeMemory l D cB cI a bz ha S (1 : Int32) (1 : Int32)) (kw_Mdl_changeMemory hts q_766 ⟨Nat.le_of_ble_eq_true rfl, Nat.le_of_ble_eq_true rfl⟩) 0 rfl rfl rfl hl.1 rfl (lv_room (Nat.le_of_ble_eq_true rfl)) d_Mdl_change_154 (fun S53 H locs e54 hP hS => ?_)
                          refine lv_goto (tgt := 330) hx hb d_Mdl_change_157 rfl ?_
                          refine lv_iconst (v := (1 : Int32)) hx hb d_Mdl_change_330 (by decide) ?_
                          exact rt_z X hr hk hP hS (by decide) (by rw [f_Mdl_change, if_neg h1, if_neg h4, if_neg h10, if_neg h16, if_neg h19, if_neg h25, if_neg h31, if_neg h34, if_neg h40, if_neg h43, if_neg h49, if_pos h52, bs_eq e54]) d_Mdl_change_331
                        ·
                          by_cases h55 : x1 = (230 : Int32)
                          ·
                            refine sw_l (k := (230 : Int32)) (tgt := 124) hx hb d_Mdl_change_1 h55 rfl ?_
                            refine lv_aload_n hx hb d_Mdl_change_124 rfl (lv_at hl 0 rfl) ?_
                            refine lv_iconst (v := (0 : Int32)) hx hb d_Mdl_change_125 (by decide) ?_
                            refine lv_iconst (v := (0 : Int32)) hx hb d_Mdl_change_126 (by decide) ?_
                            refine kv_s (rest := []) X hP hS (c_Mdl_changeMemory l D cB cI a bz ha S (0 : Int32) (0 : Int32)) (kw_Mdl_changeMemory hts q_766 ⟨Nat.le_of_ble_eq_true rfl, Nat.le_of_ble_eq_true rfl⟩) 0 rfl rfl rfl hl.1 rfl (lv_room (Nat.le_of_ble_eq_true rfl)) d_Mdl_change_127 (fun S56 H locs e57 hP hS => ?_)
                            refine lv_goto (tgt := 330) hx hb d_Mdl_change_130 rfl ?_
                            refine lv_iconst (v := (1 : Int32)) hx hb d_Mdl_change_330 (by decide) ?_
                            exact rt_z X hr hk hP hS (by decide) (by rw [f_Mdl_change, if_neg h1, if_neg h4, if_neg h10, if_neg h16, if_neg h19, if_neg h25, if_neg h31, if_neg h34, if_neg h40, if_neg h43, if_neg h49, if_neg h52, if_pos h55, bs_eq e57]) d_Mdl_change_331
                          ·
                            by_cases h58 : x1 = (238 : Int32)
                            ·
                              refine sw_l (k := (238 : Int32)) (tgt := 133) hx hb d_Mdl_change_1 h58 rfl ?_
                              refine lv_aload_n hx hb d_Mdl_change_133 rfl (lv_at hl 0 rfl) ?_
                              refine lv_iconst (v := (0 : Int32)) hx hb d_Mdl_change_134 (by decide) ?_
                              refine lv_iconst (v := (1 : Int32)) hx hb d_Mdl_change_135 (by decide) ?_
                              refine kv_s (rest := []) X hP hS (c_Mdl_changeMemory l D cB cI a bz ha S (0 : Int32) (1 : Int32)) (kw_Mdl_changeMemory hts q_766 ⟨Nat.le_of_ble_eq_true rfl, Nat.le_of_ble_eq_true rfl⟩) 0 rfl rfl rfl hl.1 rfl (lv_room (Nat.le_of_ble_eq_true rfl)) d_Mdl_change_136 (fun S59 H locs e60 hP hS => ?_)
                              refine lv_goto (tgt := 330) hx hb d_Mdl_change_139 rfl ?_
                              refine lv_iconst (v := (1 : Int32)) hx hb d_Mdl_change_330 (by decide) ?_
                              exact rt_z X hr hk hP hS (by decide) (by rw [f_Mdl_change, if_neg h1, if_neg h4, if_neg h10, if_neg h16, if_neg h19, if_neg h25, if_neg h31, if_neg h34, if_neg h40, if_neg h43, if_neg h49, if_neg h52, if_neg h55, if_pos h58, bs_eq e60]) d_Mdl_change_331
                            ·
                              refine sn_l (tgt := 328) hx hb d_Mdl_change_1 rfl ⟨lv_neT h1 rfl, lv_neT h4 rfl, lv_neT h10 rfl, lv_neT h16 rfl, lv_neT h19 rfl, lv_neT h25 rfl, lv_neT h31 rfl, lv_neT h34 rfl, lv_neT h40 rfl, lv_neT h43 rfl, lv_neT h49 rfl, lv_neT h52 rfl, lv_neT h55 rfl, lv_neT h58 rfl, trivial⟩ rfl ?_
                              refine lv_iconst (v := (0 : Int32)) hx hb d_Mdl_change_328 (by decide) ?_
                              exact rt_z X hr hk hP hS (by decide) (by rw [f_Mdl_change, if_neg h1, if_neg h4, if_neg h10, if_neg h16, if_neg h19, if_neg h25, if_neg h31, if_neg h34, if_neg h40, if_neg h43, if_neg h49, if_neg h52, if_neg h55, if_neg h58]) d_Mdl_change_329
set_option maxHeartbeats 4000000 in
set_option maxRecDepth 100000 in
theorem c_Mdl_index (l : Launch) (D : va_G) (cB cI : ClassId) (a : Nat → Nat) (bz : Nat) (ha : ap a 3) (S : Sc) (x1 : Int32) : MI l y_Mdl_index b_Mdl_index 3 (some .boolean) rm_Mdl_index [.ref (a 0), .int x1] D cB cI (wdT cI a) (ow a 3) bz S (f_Mdl_index S x1) := by
  refine met_in R_Mdl (by decide) rfl (Nat.le_of_ble_eq_true rfl) (wdT_D ha cI) ?_
  intro p e s m below meth c ls X hr hk hl hP hS
  have hx := X.1.1
  have hb := X.1.2.1
  have hown := X.1.2.2.2.1
  have hts := X.1.2.2.2.2
  have hl : lv_has ls 3 [(0, .ref (a 0)), (1, .int x1)] := hl
  refine lv_aload_n hx hb d_Mdl_index_0 rfl (lv_at hl 0 rfl) ?_
  refine lv_bipush (v := (16 : Int32)) hx hb d_Mdl_index_1 (by decide) ?_
  refine kv_v (rest := []) X hP hS (c_Mdl_is l D cB cI a bz ha S (16 : Int32)) (kw_Mdl_is hts q_635 ⟨Nat.le_of_ble_eq_true rfl, Nat.le_of_ble_eq_true rfl⟩) 0 rfl rfl rfl hl.1 rfl (lv_room (Nat.le_of_ble_eq_true rfl)) d_Mdl_index_3 (fun H locs hP hS => ?_)
  refine lv_istore_n hx hb d_Mdl_index_6 rfl hl (Nat.le_of_ble_eq_true rfl) rfl (fun ls hl => ?_)
  have hl : lv_has ls 3 [(2, .int ((f_Mdl_is S (16 : Int32)))), (0, .ref (a 0)), (1, .int (x1))] := hl
  refine lv_iload_n hx hb d_Mdl_index_7 rfl (lv_at hl 2 rfl) ?_
  by_cases h1 : x1 = (100 : Int32)
  ·
    refine sw_l (k := (100 : Int32)) (tgt := 284) hx hb d_Mdl_index_8 h1 rfl ?_
    refine lv_aload_n hx hb d_Mdl_index_284 rfl (lv_at hl 1 rfl) ?_
    refine lv_iconst (v := (0 : Int32)) hx hb d_Mdl_index_285 (by decide) ?_
    refine lv_iconst (v := (0 : Int32)) hx hb d_Mdl_index_286 (by decide) ?_
    refine lv_aload_n hx hb d_Mdl_index_287 rfl (lv_at hl 1 rfl) ?_
    refine lv_bipush (v := (32 : Int32)) hx hb d_Mdl_index_288 (by decide) ?_
    refine kv_v (rest := [.int ((0 : Int32)), .int ((0 : Int32)), .ref (a 0)]) X hP hS (c_Mdl_is l D cB cI a bz ha S (32 : Int32)) (kw_Mdl_is hts q_635 ⟨Nat.le_of_ble_eq_true rfl, Nat.le_of_ble_eq_true rfl⟩) 0 rfl rfl rfl hl.1 rfl (lv_room (Nat.le_of_ble_eq_true rfl)) d_Mdl_index_290 (fun H locs hP hS => ?_)
    refine kv_s (rest := []) X hP hS (c_Mdl_storeAt l D cB cI a bz ha S (0 : Int32) (0 : Int32) (f_Mdl_is S (32 : Int32))) (kw_Mdl_storeAt hts q_786 ⟨Nat.le_of_ble_eq_true rfl, Nat.le_of_ble_eq_true rfl⟩) 0 rfl rfl rfl hl.1 rfl (lv_room (Nat.le_of_ble_eq_true rfl)) d_Mdl_index_293 (fun S2 H locs e3 hP hS => ?_)
    refine lv_goto (tgt := 388) hx hb d_Mdl_index_296 rfl ?_
    refine lv_iconst (v := (1 : Int32)) hx hb d_Mdl_index_388 (by decide) ?_
    exact rt_z X hr hk hP hS (by decide) (by rw [f_Mdl_index, if_pos h1, bs_eq e3]) d_Mdl_index_389
  ·
    by_cases h4 : x1 = (132 : Int32)
    ·
      refine sw_l (k := (132 : Int32)) (tgt := 258) hx hb d_Mdl_index_8 h4 rfl ?_
      refine lv_aload_n hx hb d_Mdl_index_258 rfl (lv_at hl 1 rfl) ?_
      refine lv_iconst (v := (0 : Int32)) hx hb d_Mdl_index_259 (by decide) ?_
      refine lv_aload_n hx hb d_Mdl_index_260 rfl (lv_at hl 1 rfl) ?_
      refine gt_Mdl X hP 3 (by decide) (v := .int (S.1 2)) q_566 rfl d_Mdl_index_261 ?_
      refine lv_iload_n hx hb d_Mdl_index_264 rfl (lv_at hl 0 rfl) ?_
      refine kv_s (rest := []) X hP hS (c_Mdl_storeAt l D cB cI a bz ha S (0 : Int32) (S.1 2) (f_Mdl_is S (16 : Int32))) (kw_Mdl_storeAt hts q_786 ⟨Nat.le_of_ble_eq_true rfl, Nat.le_of_ble_eq_true rfl⟩) 0 rfl rfl rfl hl.1 rfl (lv_room (Nat.le_of_ble_eq_true rfl)) d_Mdl_index_265 (fun S5 H locs e6 hP hS => ?_)
      refine lv_goto (tgt := 388) hx hb d_Mdl_index_268 rfl ?_
      refine lv_iconst (v := (1 : Int32)) hx hb d_Mdl_index_388 (by decide) ?_
      exact rt_z X hr hk hP hS (by decide) (by rw [f_Mdl_index, if_neg h1, if_pos h4, bs_eq e6]) d_Mdl_index_389
    ·
      by_cases h7 : x1 = (134 : Int32)
      ·
        refine sw_l (k := (134 : Int32)) (tgt := 232) hx hb d_Mdl_index_8 h7 rfl ?_
        refine lv_aload_n hx hb d_Mdl_index_232 rfl (lv_at hl 1 rfl) ?_
        refine lv_iconst (v := (0 : Int32)) hx hb d_Mdl_index_233 (by decide) ?_
        refine lv_aload_n hx hb d_Mdl_index_234 rfl (lv_at hl 1 rfl) ?_
        refine gt_Mdl X hP 2 (by decide) (v := .int (S.1 1)) q_565 rfl d_Mdl_index_235 ?_
        refine lv_iload_n hx hb d_Mdl_index_238 rfl (lv_at hl 0 rfl) ?_
        refine kv_s (rest := []) X hP hS (c_Mdl_storeAt l D cB cI a bz ha S (0 : Int32) (S.1 1) (f_Mdl_is S (16 : Int32))) (kw_Mdl_storeAt hts q_786 ⟨Nat.le_of_ble_eq_true rfl, Nat.le_of_ble_eq_true rfl⟩) 0 rfl rfl rfl hl.1 rfl (lv_room (Nat.le_of_ble_eq_true rfl)) d_Mdl_index_239 (fun S8 H locs e9 hP hS => ?_)
        refine lv_goto (tgt := 388) hx hb d_Mdl_index_242 rfl ?_
        refine lv_iconst (v := (1 : Int32)) hx hb d_Mdl_index_388 (by decide) ?_
        exact rt_z X hr hk hP hS (by decide) (by rw [f_Mdl_index, if_neg h1, if_neg h4, if_pos h7, bs_eq e9]) d_Mdl_index_389
      ·
        by_cases h10 : x1 = (136 : Int32)
        ·
          refine sw_l (k := (136 : Int32)) (tgt := 368) hx hb d_Mdl_index_8 h10 rfl ?_
          refine lv_aload_n hx hb d_Mdl_index_368 rfl (lv_at hl 1 rfl) ?_
          refine lv_aload_n hx hb d_Mdl_index_369 rfl (lv_at hl 1 rfl) ?_
          refine lv_aload_n hx hb d_Mdl_index_370 rfl (lv_at hl 1 rfl) ?_
          refine gt_Mdl X hP 3 (by decide) (v := .int (S.1 2)) q_566 rfl d_Mdl_index_371 ?_
          refine lv_iconst (v := (1 : Int32)) hx hb d_Mdl_index_374 (by decide) ?_
          refine lv_isub hx hb d_Mdl_index_375 ?_
          refine lv_iload_n hx hb d_Mdl_index_376 rfl (lv_at hl 0 rfl) ?_
          refine kv_vs (rest := [.ref (a 0)]) X hP hS (c_Mdl_result l D cB cI a bz ha S ((S.1 2) - (1 : Int32)) (f_Mdl_is S (16 : Int32))) (kw_Mdl_result hts q_749 ⟨Nat.le_of_ble_eq_true rfl, Nat.le_of_ble_eq_true rfl⟩) 0 rfl rfl rfl hl.1 rfl (lv_room (Nat.le_of_ble_eq_true rfl)) d_Mdl_index_377 (fun r11 S12 H locs e13 hP hS => ?_)
          refine pt_Mdl X hP hS 3 (by decide) (v := r11) (S1 := (pr S12 2 (r11))) q_566 rfl rfl rfl rfl d_Mdl_index_380 (fun H locs hP hS => ?_)
          refine lv_goto (tgt := 388) hx hb d_Mdl_index_383 rfl ?_
          refine lv_iconst (v := (1 : Int32)) hx hb d_Mdl_index_388 (by decide) ?_
          exact rt_z X hr hk hP hS (by decide) (by rw [f_Mdl_index, if_neg h1, if_neg h4, if_neg h7, if_pos h10, bn_eq e13]) d_Mdl_index_389
        ·
          by_cases h14 : x1 = (140 : Int32)
          ·
            refine sw_l (k := (140 : Int32)) (tgt := 271) hx hb d_Mdl_index_8 h14 rfl ?_
            refine lv_aload_n hx hb d_Mdl_index_271 rfl (lv_at hl 1 rfl) ?_
            refine lv_iconst (v := (1 : Int32)) hx hb d_Mdl_index_272 (by decide) ?_
            refine lv_aload_n hx hb d_Mdl_index_273 rfl (lv_at hl 1 rfl) ?_
            refine gt_Mdl X hP 3 (by decide) (v := .int (S.1 2)) q_566 rfl d_Mdl_index_274 ?_
            refine lv_iload_n hx hb d_Mdl_index_277 rfl (lv_at hl 0 rfl) ?_
            refine kv_s (rest := []) X hP hS (c_Mdl_storeAt l D cB cI a bz ha S (1 : Int32) (S.1 2) (f_Mdl_is S (16 : Int32))) (kw_Mdl_storeAt hts q_786 ⟨Nat.le_of_ble_eq_true rfl, Nat.le_of_ble_eq_true rfl⟩) 0 rfl rfl rfl hl.1 rfl (lv_room (Nat.le_of_ble_eq_true rfl)) d_Mdl_index_278 (fun S15 H locs e16 hP hS => ?_)
            refine lv_goto (tgt := 388) hx hb d_Mdl_index_281 rfl ?_
            refine lv_iconst (v := (1 : Int32)) hx hb d_Mdl_index_388 (by decide) ?_
            exact rt_z X hr hk hP hS (by decide) (by rw [f_Mdl_index, if_neg h1, if_neg h4, if_neg h7, if_neg h10, if_pos h14, bs_eq e16]) d_Mdl_index_389
          ·
            by_cases h17 : x1 = (142 : Int32)
            ·
              refine sw_l (k := (142 : Int32)) (tgt := 245) hx hb d_Mdl_index_8 h17 rfl ?_
              refine lv_aload_n hx hb d_Mdl_index_245 rfl (lv_at hl 1 rfl) ?_
              refine lv_iconst (v := (1 : Int32)) hx hb d_Mdl_index_246 (by decide) ?_
              refine lv_aload_n hx hb d_Mdl_index_247 rfl (lv_at hl 1 rfl) ?_
              refine gt_Mdl X hP 2 (by decide) (v := .int (S.1 1)) q_565 rfl d_Mdl_index_248 ?_
              refine lv_iload_n hx hb d_Mdl_index_251 rfl (lv_at hl 0 rfl) ?_
              refine kv_s (rest := []) X hP hS (c_Mdl_storeAt l D cB cI a bz ha S (1 : Int32) (S.1 1) (f_Mdl_is S (16 : Int32))) (kw_Mdl_storeAt hts q_786 ⟨Nat.le_of_ble_eq_true rfl, Nat.le_of_ble_eq_true rfl⟩) 0 rfl rfl rfl hl.1 rfl (lv_room (Nat.le_of_ble_eq_true rfl)) d_Mdl_index_252 (fun S18 H locs e19 hP hS => ?_)
              refine lv_goto (tgt := 388) hx hb d_Mdl_index_255 rfl ?_
              refine lv_iconst (v := (1 : Int32)) hx hb d_Mdl_index_388 (by decide) ?_
              exact rt_z X hr hk hP hS (by decide) (by rw [f_Mdl_index, if_neg h1, if_neg h4, if_neg h7, if_neg h10, if_neg h14, if_pos h17, bs_eq e19]) d_Mdl_index_389
            ·
              by_cases h20 : x1 = (156 : Int32)
              ·
                refine sw_l (k := (156 : Int32)) (tgt := 299) hx hb d_Mdl_index_8 h20 rfl ?_
                refine lv_aload_n hx hb d_Mdl_index_299 rfl (lv_at hl 1 rfl) ?_
                refine lv_iconst (v := (1 : Int32)) hx hb d_Mdl_index_300 (by decide) ?_
                refine lv_iconst (v := (0 : Int32)) hx hb d_Mdl_index_301 (by decide) ?_
                refine lv_aload_n hx hb d_Mdl_index_302 rfl (lv_at hl 1 rfl) ?_
                refine lv_bipush (v := (32 : Int32)) hx hb d_Mdl_index_303 (by decide) ?_
                refine kv_v (rest := [.int ((0 : Int32)), .int ((1 : Int32)), .ref (a 0)]) X hP hS (c_Mdl_is l D cB cI a bz ha S (32 : Int32)) (kw_Mdl_is hts q_635 ⟨Nat.le_of_ble_eq_true rfl, Nat.le_of_ble_eq_true rfl⟩) 0 rfl rfl rfl hl.1 rfl (lv_room (Nat.le_of_ble_eq_true rfl)) d_Mdl_index_305 (fun H locs hP hS => ?_)
                refine kv_s (rest := []) X hP hS (c_Mdl_storeAt l D cB cI a bz ha S (1 : Int32) (0 : Int32) (f_Mdl_is S (32 : Int32))) (kw_Mdl_storeAt hts q_786 ⟨Nat.le_of_ble_eq_true rfl, Nat.le_of_ble_eq_true rfl⟩) 0 rfl rfl rfl hl.1 rfl (lv_room (Nat.le_of_ble_eq_true rfl)) d_Mdl_index_308 (fun S21 H locs e22 hP hS => ?_)
                refine lv_goto (tgt := 388) hx hb d_Mdl_index_311 rfl ?_
                refine lv_iconst (v := (1 : Int32)) hx hb d_Mdl_index_388 (by decide) ?_
                exact rt_z X hr hk hP hS (by decide) (by rw [f_Mdl_index, if_neg h1, if_neg h4, if_neg h7, if_neg h10, if_neg h14, if_neg h17, if_pos h20, bs_eq e22]) d_Mdl_index_389
              ·
                by_cases h23 : x1 = (160 : Int32)
                ·
                  refine sw_l (k := (160 : Int32)) (tgt := 181) hx hb d_Mdl_index_8 h23 rfl ?_
                  refine lv_aload_n hx hb d_Mdl_index_181 rfl (lv_at hl 1 rfl) ?_
                  refine lv_aload_n hx hb d_Mdl_index_182 rfl (lv_at hl 1 rfl) ?_
                  refine lv_aload_n hx hb d_Mdl_index_183 rfl (lv_at hl 1 rfl) ?_
                  refine lv_iload_n hx hb d_Mdl_index_184 rfl (lv_at hl 2 rfl) ?_
                  refine kv_vs (rest := [.ref (a 0), .ref (a 0)]) X hP hS (c_Mdl_indexOperand l D cB cI a bz ha S x1) (kw_Mdl_indexOperand hts q_778 ⟨Nat.le_of_ble_eq_true rfl, Nat.le_of_ble_eq_true rfl⟩) 0 rfl rfl rfl hl.1 rfl (lv_room (Nat.le_of_ble_eq_true rfl)) d_Mdl_index_185 (fun r24 S25 H locs e26 hP hS => ?_)
                  refine lv_iload_n hx hb d_Mdl_index_188 rfl (lv_at hl 0 rfl) ?_
                  refine kv_vs (rest := [.ref (a 0)]) X hP hS (c_Mdl_result l D cB cI a bz ha S25 r24 (f_Mdl_is S (16 : Int32))) (kw_Mdl_result hts q_749 ⟨Nat.le_of_ble_eq_true rfl, Nat.le_of_ble_eq_true rfl⟩) 0 rfl rfl rfl hl.1 rfl (lv_room (Nat.le_of_ble_eq_true rfl)) d_Mdl_index_189 (fun r27 S28 H locs e29 hP hS => ?_)
                  refine pt_Mdl X hP hS 3 (by decide) (v := r27) (S1 := (pr S28 2 (r27))) q_566 rfl rfl rfl rfl d_Mdl_index_192 (fun H locs hP hS => ?_)
                  refine lv_goto (tgt := 388) hx hb d_Mdl_index_195 rfl ?_
                  refine lv_iconst (v := (1 : Int32)) hx hb d_Mdl_index_388 (by decide) ?_
                  exact rt_z X hr hk hP hS (by decide) (by rw [f_Mdl_index, if_neg h1, if_neg h4, if_neg h7, if_neg h10, if_neg h14, if_neg h17, if_neg h20, if_pos h23, bn_eq e26, bn_eq e29]) d_Mdl_index_389
                ·
                  by_cases h30 : x1 = (162 : Int32)
                  ·
                    refine sw_l (k := (162 : Int32)) (tgt := 164) hx hb d_Mdl_index_8 h30 rfl ?_
                    refine lv_aload_n hx hb d_Mdl_index_164 rfl (lv_at hl 1 rfl) ?_
                    refine lv_aload_n hx hb d_Mdl_index_165 rfl (lv_at hl 1 rfl) ?_
                    refine lv_aload_n hx hb d_Mdl_index_166 rfl (lv_at hl 1 rfl) ?_
                    refine lv_iload_n hx hb d_Mdl_index_167 rfl (lv_at hl 2 rfl) ?_
                    refine kv_vs (rest := [.ref (a 0), .ref (a 0)]) X hP hS (c_Mdl_indexOperand l D cB cI a bz ha S x1) (kw_Mdl_indexOperand hts q_778 ⟨Nat.le_of_ble_eq_true rfl, Nat.le_of_ble_eq_true rfl⟩) 0 rfl rfl rfl hl.1 rfl (lv_room (Nat.le_of_ble_eq_true rfl)) d_Mdl_index_168 (fun r31 S32 H locs e33 hP hS => ?_)
                    refine lv_iload_n hx hb d_Mdl_index_171 rfl (lv_at hl 0 rfl) ?_
                    refine kv_vs (rest := [.ref (a 0)]) X hP hS (c_Mdl_result l D cB cI a bz ha S32 r31 (f_Mdl_is S (16 : Int32))) (kw_Mdl_result hts q_749 ⟨Nat.le_of_ble_eq_true rfl, Nat.le_of_ble_eq_true rfl⟩) 0 rfl rfl rfl hl.1 rfl (lv_room (Nat.le_of_ble_eq_true rfl)) d_Mdl_index_172 (fun r34 S35 H locs e36 hP hS => ?_)
                    refine pt_Mdl X hP hS 2 (by decide) (v := r34) (S1 := (pr S35 1 (r34))) q_565 rfl rfl rfl rfl d_Mdl_index_175 (fun H locs hP hS => ?_)
                    refine lv_goto (tgt := 388) hx hb d_Mdl_index_178 rfl ?_
                    refine lv_iconst (v := (1 : Int32)) hx hb d_Mdl_index_388 (by decide) ?_
                    exact rt_z X hr hk hP hS (by decide) (by rw [f_Mdl_index, if_neg h1, if_neg h4, if_neg h7, if_neg h10, if_neg h14, if_neg h17, if_neg h20, if_neg h23, if_pos h30, bn_eq e33, bn_eq e36]) d_Mdl_index_389
                  ·
                    by_cases h37 : x1 = (164 : Int32)
                    ·
                      refine sw_l (k := (164 : Int32)) (tgt := 181) hx hb d_Mdl_index_8 h37 rfl ?_
                      refine lv_aload_n hx hb d_Mdl_index_181 rfl (lv_at hl 1 rfl) ?_
                      refine lv_aload_n hx hb d_Mdl_index_182 rfl (lv_at hl 1 rfl) ?_
                      refine lv_aload_n hx hb d_Mdl_index_183 rfl (lv_at hl 1 rfl) ?_
                      refine lv_iload_n hx hb d_Mdl_index_184 rfl (lv_at hl 2 rfl) ?_
                      refine kv_vs (rest := [.ref (a 0), .ref (a 0)]) X hP hS (c_Mdl_indexOperand l D cB cI a bz ha S x1) (kw_Mdl_indexOperand hts q_778 ⟨Nat.le_of_ble_eq_true rfl, Nat.le_of_ble_eq_true rfl⟩) 0 rfl rfl rfl hl.1 rfl (lv_room (Nat.le_of_ble_eq_true rfl)) d_Mdl_index_185 (fun r38 S39 H locs e40 hP hS => ?_)
                      refine lv_iload_n hx hb d_Mdl_index_188 rfl (lv_at hl 0 rfl) ?_
                      refine kv_vs (rest := [.ref (a 0)]) X hP hS (c_Mdl_result l D cB cI a bz ha S39 r38 (f_Mdl_is S (16 : Int32))) (kw_Mdl_result hts q_749 ⟨Nat.le_of_ble_eq_true rfl, Nat.le_of_ble_eq_true rfl⟩) 0 rfl rfl rfl hl.1 rfl (lv_room (Nat.le_of_ble_eq_true rfl)) d_Mdl_index_189 (fun r41 S42 H locs e43 hP hS => ?_)
                      refine pt_Mdl X hP hS 3 (by decide) (v := r41) (S1 := (pr S42 2 (r41))) q_566 rfl rfl rfl rfl d_Mdl_index_192 (fun H locs hP hS => ?_)
                      refine lv_goto (tgt := 388) hx hb d_Mdl_index_195 rfl ?_
                      refine lv_iconst (v := (1 : Int32)) hx hb d_Mdl_index_388 (by decide) ?_
                      exact rt_z X hr hk hP hS (by decide) (by rw [f_Mdl_index, if_neg h1, if_neg h4, if_neg h7, if_neg h10, if_neg h14, if_neg h17, if_neg h20, if_neg h23, if_neg h30, if_pos h37, bn_eq e40, bn_eq e43]) d_Mdl_index_389
                    ·
                      by_cases h44 : x1 = (166 : Int32)
                      ·
                        refine sw_l (k := (166 : Int32)) (tgt := 164) hx hb d_Mdl_index_8 h44 rfl ?_
                        refine lv_aload_n hx hb d_Mdl_index_164 rfl (lv_at hl 1 rfl) ?_
                        refine lv_aload_n hx hb d_Mdl_index_165 rfl (lv_at hl 1 rfl) ?_
                        refine lv_aload_n hx hb d_Mdl_index_166 rfl (lv_at hl 1 rfl) ?_
                        refine lv_iload_n hx hb d_Mdl_index_167 rfl (lv_at hl 2 rfl) ?_
                        refine kv_vs (rest := [.ref (a 0), .ref (a 0)]) X hP hS (c_Mdl_indexOperand l D cB cI a bz ha S x1) (kw_Mdl_indexOperand hts q_778 ⟨Nat.le_of_ble_eq_true rfl, Nat.le_of_ble_eq_true rfl⟩) 0 rfl rfl rfl hl.1 rfl (lv_room (Nat.le_of_ble_eq_true rfl)) d_Mdl_index_168 (fun r45 S46 H locs e47 hP hS => ?_)
                        refine lv_iload_n hx hb d_Mdl_index_171 rfl (lv_at hl 0 rfl) ?_
                        refine kv_vs (rest := [.ref (a 0)]) X hP hS (c_Mdl_result l D cB cI a bz ha S46 r45 (f_Mdl_is S (16 : Int32))) (kw_Mdl_result hts q_749 ⟨Nat.le_of_ble_eq_true rfl, Nat.le_of_ble_eq_true rfl⟩) 0 rfl rfl rfl hl.1 rfl (lv_room (Nat.le_of_ble_eq_true rfl)) d_Mdl_index_172 (fun r48 S49 H locs e50 hP hS => ?_)
                        refine pt_Mdl X hP hS 2 (by decide) (v := r48) (S1 := (pr S49 1 (r48))) q_565 rfl rfl rfl rfl d_Mdl_index_175 (fun H locs hP hS => ?_)
                        refine lv_goto (tgt := 388) hx hb d_Mdl_index_178 rfl ?_
                        refine lv_iconst (v := (1 : Int32)) hx hb d_Mdl_index_388 (by decide) ?_
                        exact rt_z X hr hk hP hS (by decide) (by rw [f_Mdl_index, if_neg h1, if_neg h4, if_neg h7, if_neg h10, if_neg h14, if_neg h17, if_neg h20, if_neg h23, if_neg h30, if_neg h37, if_pos h44, bn_eq e47, bn_eq e50]) d_Mdl_index_389
                      ·
                        by_cases h51 : x1 = (172 : Int32)
                        ·
                          refine sw_l (k := (172 : Int32)) (tgt := 181) hx hb d_Mdl_index_8 h51 rfl ?_
                          refine lv_aload_n hx hb d_Mdl_index_181 rfl (lv_at hl 1 rfl) ?_
                          refine lv_aload_n hx hb d_Mdl_index_182 rfl (lv_at hl 1 rfl) ?_
                          refine lv_aload_n hx hb d_Mdl_index_183 rfl (lv_at hl 1 rfl) ?_
                          refine lv_iload_n hx hb d_Mdl_index_184 rfl (lv_at hl 2 rfl) ?_
                          refine kv_vs (rest := [.ref (a 0), .ref (a 0)]) X hP hS (c_Mdl_indexOperand l D cB cI a bz ha S x1) (kw_Mdl_indexOperand hts q_778 ⟨Nat.le_of_ble_eq_true rfl, Nat.le_of_ble_eq_true rfl⟩) 0 rfl rfl rfl hl.1 rfl (lv_room (Nat.le_of_ble_eq_true rfl)) d_Mdl_index_185 (fun r52 S53 H locs e54 hP hS => ?_)
                          refine lv_iload_n hx hb d_Mdl_index_188 rfl (lv_at hl 0 rfl) ?_
                          refine kv_vs (rest := [.ref (a 0)]) X hP hS (c_Mdl_result l D cB cI a bz ha S53 r52 (f_Mdl_is S (16 : Int32))) (kw_Mdl_result hts q_749 ⟨Nat.le_of_ble_eq_true rfl, Nat.le_of_ble_eq_true rfl⟩) 0 rfl rfl rfl hl.1 rfl (lv_room (Nat.le_of_ble_eq_true rfl)) d_Mdl_index_189 (fun r55 S56 H locs e57 hP hS => ?_)
                          refine pt_Mdl X hP hS 3 (by decide) (v := r55) (S1 := (pr S56 2 (r55))) q_566 rfl rfl rfl rfl d_Mdl_index_192 (fun H locs hP hS => ?_)
                          refine lv_goto (tgt := 388) hx hb d_Mdl_index_195 rfl ?_
                          refine lv_iconst (v := (1 : Int32)) hx hb d_Mdl_index_388 (by decide) ?_
                          exact rt_z X hr hk hP hS (by decide) (by rw [f_Mdl_index, if_neg h1, if_neg h4, if_neg h7, if_neg h10, if_neg h14, if_neg h17, if_neg h20, if_neg h23, if_neg h30, if_neg h37, if_neg h44, if_pos h51, bn_eq e54, bn_eq e57]) d_Mdl_index_389
                        ·
                          by_cases h58 : x1 = (174 : Int32)
                          ·
                            refine sw_l (k := (174 : Int32)) (tgt := 164) hx hb d_Mdl_index_8 h58 rfl ?_
                            refine lv_aload_n hx hb d_Mdl_index_164 rfl (lv_at hl 1 rfl) ?_
                            refine lv_aload_n hx hb d_Mdl_index_165 rfl (lv_at hl 1 rfl) ?_
                            refine lv_aload_n hx hb d_Mdl_index_166 rfl (lv_at hl 1 rfl) ?_
                            refine lv_iload_n hx hb d_Mdl_index_167 rfl (lv_at hl 2 rfl) ?_
                            refine kv_vs (rest := [.ref (a 0), .ref (a 0)]) X hP hS (c_Mdl_indexOperand l D cB cI a bz ha S x1) (kw_Mdl_indexOperand hts q_778 ⟨Nat.le_of_ble_eq_true rfl, Nat.le_of_ble_eq_true rfl⟩) 0 rfl rfl rfl hl.1 rfl (lv_room (Nat.le_of_ble_eq_true rfl)) d_Mdl_index_168 (fun r59 S60 H locs e61 hP hS => ?_)
                            refine lv_iload_n hx hb d_Mdl_index_171 rfl (lv_at hl 0 rfl) ?_
                            refine kv_vs (rest := [.ref (a 0)]) X hP hS (c_Mdl_result l D cB cI a bz ha S60 r59 (f_Mdl_is S (16 : Int32))) (kw_Mdl_result hts q_749 ⟨Nat.le_of_ble_eq_true rfl, Nat.le_of_ble_eq_true rfl⟩) 0 rfl rfl rfl hl.1 rfl (lv_room (Nat.le_of_ble_eq_true rfl)) d_Mdl_index_172 (fun r62 S63 H locs e64 hP hS => ?_)
                            refine pt_Mdl X hP hS 2 (by decide) (v := r62) (S1 := (pr S63 1 (r62))) q_565 rfl rfl rfl rfl d_Mdl_index_175 (fun H locs hP hS => ?_)
                            refine lv_goto (tgt := 388) hx hb d_Mdl_index_178 rfl ?_
                            refine lv_iconst (v := (1 : Int32)) hx hb d_Mdl_index_388 (by decide) ?_
                            exact rt_z X hr hk hP hS (by decide) (by rw [f_Mdl_index, if_neg h1, if_neg h4, if_neg h7, if_neg h10, if_neg h14, if_neg h17, if_neg h20, if_neg h23, if_neg h30, if_neg h37, if_neg h44, if_neg h51, if_pos h58, bn_eq e61, bn_eq e64]) d_Mdl_index_389
                          ·
                            by_cases h65 : x1 = (192 : Int32)
                            ·
                              refine sw_l (k := (192 : Int32)) (tgt := 215) hx hb d_Mdl_index_8 h65 rfl ?_
                              refine lv_aload_n hx hb d_Mdl_index_215 rfl (lv_at hl 1 rfl) ?_
                              refine lv_aload_n hx hb d_Mdl_index_216 rfl (lv_at hl 1 rfl) ?_
                              refine gt_Mdl X hP 3 (by decide) (v := .int (S.1 2)) q_566 rfl d_Mdl_index_217 ?_
                              refine lv_aload_n hx hb d_Mdl_index_220 rfl (lv_at hl 1 rfl) ?_
                              refine lv_iload_n hx hb d_Mdl_index_221 rfl (lv_at hl 0 rfl) ?_
                              refine kv_vs (rest := [.int (S.1 2), .ref (a 0)]) X hP hS (c_Mdl_immediate l D cB cI a bz ha S (f_Mdl_is S (16 : Int32))) (kw_Mdl_immediate hts q_736 ⟨Nat.le_of_ble_eq_true rfl, Nat.le_of_ble_eq_true rfl⟩) 0 rfl rfl rfl hl.1 rfl (lv_room (Nat.le_of_ble_eq_true rfl)) d_Mdl_index_222 (fun r66 S67 H locs e68 hP hS => ?_)
                              refine lv_iload_n hx hb d_Mdl_index_225 rfl (lv_at hl 0 rfl) ?_
                              refine kv_s (rest := []) X hP hS (c_Mdl_compare l D cB cI a bz ha S67 (S.1 2) r66 (f_Mdl_is S (16 : Int32))) (kw_Mdl_compare hts q_758 ⟨Nat.le_of_ble_eq_true rfl, Nat.le_of_ble_eq_true rfl⟩) 0 rfl rfl rfl hl.1 rfl (lv_room (Nat.le_of_ble_eq_true rfl)) d_Mdl_index_226 (fun S69 H locs e70 hP hS => ?_)
                              refine lv_goto (tgt := 388) hx hb d_Mdl_index_229 rfl ?_
                              refine lv_iconst (v := (1 : Int32)) hx hb d_Mdl_index_388 (by decide) ?_
                              exact rt_z X hr hk hP hS (by decide) (by rw [f_Mdl_index, if_neg h1, if_neg h4, if_neg h7, if_neg h10, if_neg h14, if_neg h17, if_neg h20, if_neg h23, if_neg h30, if_neg h37, if_neg h44, if_neg h51, if_neg h58, if_pos h65, bn_eq e68, bs_eq e70]) d_Mdl_index_389
                            ·
                              by_cases h71 : x1 = (200 : Int32)
                              ·
                                refine sw_l (k := (200 : Int32)) (tgt := 332) hx hb d_Mdl_index_8 h71 rfl ?_
                                refine lv_aload_n hx hb d_Mdl_index_332 rfl (lv_at hl 1 rfl) ?_
                                refine lv_aload_n hx hb d_Mdl_index_333 rfl (lv_at hl 1 rfl) ?_
                                refine lv_aload_n hx hb d_Mdl_index_334 rfl (lv_at hl 1 rfl) ?_
                                refine gt_Mdl X hP 3 (by decide) (v := .int (S.1 2)) q_566 rfl d_Mdl_index_335 ?_
                                refine lv_iconst (v := (1 : Int32)) hx hb d_Mdl_index_338 (by decide) ?_
                                refine lv_iadd hx hb d_Mdl_index_339 ?_
                                refine lv_iload_n hx hb d_Mdl_index_340 rfl (lv_at hl 0 rfl) ?_
                                refine kv_vs (rest := [.ref (a 0)]) X hP hS (c_Mdl_result l D cB cI a bz ha S ((S.1 2) + (1 : Int32)) (f_Mdl_is S (16 : Int32))) (kw_Mdl_result hts q_749 ⟨Nat.le_of_ble_eq_true rfl, Nat.le_of_ble_eq_true rfl⟩) 0 rfl rfl rfl hl.1 rfl (lv_room (Nat.le_of_ble_eq_true rfl)) d_Mdl_index_341 (fun r72 S73 H locs e74 hP hS => ?_)
                                refine pt_Mdl X hP hS 3 (by decide) (v := r72) (S1 := (pr S73 2 (r72))) q_566 rfl rfl rfl rfl d_Mdl_index_344 (fun H locs hP hS => ?_)
                                refine lv_goto (tgt := 388) hx hb d_Mdl_index_347 rfl ?_
                                refine lv_iconst (v := (1 : Int32)) hx hb d_Mdl_index_388 (by decide) ?_
                                exact rt_z X hr hk hP hS (by decide) (by rw [f_Mdl_index, if_neg h1, if_neg h4, if_neg h7, if_neg h10, if_neg h14, if_neg h17, if_neg h20, if_neg h23, if_neg h30, if_neg h37, if_neg h44, if_neg h51, if_neg h58, if_neg h65, if_pos h71, bn_eq e74]) d_Mdl_index_389
                              ·
                                by_cases h75 : x1 = (202 : Int32)
                                ·
                                  refine sw_l (k := (202 : Int32)) (tgt := 350) hx hb d_Mdl_index_8 h75 rfl ?_
                                  refine lv_aload_n hx hb d_Mdl_index_350 rfl (lv_at hl 1 rfl) ?_
                                  refine lv_aload_n hx hb d_Mdl_index_351 rfl (lv_at hl 1 rfl) ?_
                                  refine lv_aload_n hx hb d_Mdl_index_352 rfl (lv_at hl 1 rfl) ?_
                                  refine gt_Mdl X hP 2 (by decide) (v := .int (S.1 1)) q_565 rfl d_Mdl_index_353 ?_
                                  refine lv_iconst (v := (1 : Int32)) hx hb d_Mdl_index_356 (by decide) ?_
                                  refine lv_isub hx hb d_Mdl_index_357 ?_
                                  refine lv_iload_n hx hb d_Mdl_index_358 rfl (lv_at hl 0 rfl) ?_
                                  refine kv_vs (rest := [.ref (a 0)]) X hP hS (c_Mdl_result l D cB cI a bz ha S ((S.1 1) - (1 : Int32)) (f_Mdl_is S (16 : Int32))) (kw_Mdl_result hts q_749 ⟨Nat.le_of_ble_eq_true rfl, Nat.le_of_ble_eq_true rfl⟩) 0 rfl rfl rfl hl.1 rfl (lv_room (Nat.le_of_ble_eq_true rfl)) d_Mdl_index_359 (fun r76 S77 H locs e78 hP hS => ?_)
                                  refine pt_Mdl X hP hS 2 (by decide) (v := r76) (S1 := (pr S77 1 (r76))) q_565 rfl rfl rfl rfl d_Mdl_index_362 (fun H locs hP hS => ?_)
                                  refine lv_goto (tgt := 388) hx hb d_Mdl_index_365 rfl ?_
                                  refine lv_iconst (v := (1 : Int32)) hx hb d_Mdl_index_388 (by decide) ?_
                                  exact rt_z X hr hk hP hS (by decide) (by rw [f_Mdl_index, if_neg h1, if_neg h4, if_neg h7, if_neg h10, if_neg h14, if_neg h17, if_neg h20, if_neg h23, if_neg h30, if_neg h37, if_neg h44, if_neg h51, if_neg h58, if_neg h65, if_neg h71, if_pos h75, bn_eq e78]) d_Mdl_index_389
                                ·
                                  by_cases h79 : x1 = (224 : Int32)
                                  ·
                                    refine sw_l (k := (224 : Int32)) (tgt := 198) hx hb d_Mdl_index_8 h79 rfl ?_
                                    refine lv_aload_n hx hb d_Mdl_index_198 rfl (lv_at hl 1 rfl) ?_
                                    refine lv_aload_n hx hb d_Mdl_index_199 rfl (lv_at hl 1 rfl) ?_
                                    refine gt_Mdl X hP 2 (by decide) (v := .int (S.1 1)) q_565 rfl d_Mdl_index_200 ?_
                                    refine lv_aload_n hx hb d_Mdl_index_203 rfl (lv_at hl 1 rfl) ?_
                                    refine lv_iload_n hx hb d_Mdl_index_204 rfl (lv_at hl 0 rfl) ?_
                                    refine kv_vs (rest := [.int (S.1 1), .ref (a 0)]) X hP hS (c_Mdl_immediate l D cB cI a bz ha S (f_Mdl_is S (16 : Int32))) (kw_Mdl_immediate hts q_736 ⟨Nat.le_of_ble_eq_true rfl, Nat.le_of_ble_eq_true rfl⟩) 0 rfl rfl rfl hl.1 rfl (lv_room (Nat.le_of_ble_eq_true rfl)) d_Mdl_index_205 (fun r80 S81 H locs e82 hP hS => ?_)
                                    refine lv_iload_n hx hb d_Mdl_index_208 rfl (lv_at hl 0 rfl) ?_
                                    refine kv_s (rest := []) X hP hS (c_Mdl_compare l D cB cI a bz ha S81 (S.1 1) r80 (f_Mdl_is S (16 : Int32))) (kw_Mdl_compare hts q_758 ⟨Nat.le_of_ble_eq_true rfl, Nat.le_of_ble_eq_true rfl⟩) 0 rfl rfl rfl hl.1 rfl (lv_room (Nat.le_of_ble_eq_true rfl)) d_Mdl_index_209 (fun S83 H locs e84 hP hS => ?_)
                                    refine lv_goto (tgt := 388) hx hb d_Mdl_index_212 rfl ?_
                                    refine lv_iconst (v := (1 : Int32)) hx hb d_Mdl_index_388 (by decide) ?_
                                    exact rt_z X hr hk hP hS (by decide) (by rw [f_Mdl_index, if_neg h1, if_neg h4, if_neg h7, if_neg h10, if_neg h14, if_neg h17, if_neg h20, if_neg h23, if_neg h30, if_neg h37, if_neg h44, if_neg h51, if_neg h58, if_neg h65, if_neg h71, if_neg h75, if_pos h79, bn_eq e82, bs_eq e84]) d_Mdl_index_389
                                  ·
                                    by_cases h85 : x1 = (232 : Int32)
                                    ·
                                      refine sw_l (k := (232 : Int32)) (tgt := 314) hx hb d_Mdl_index_8 h85 rfl ?_
                                      refine lv_aload_n hx hb d_Mdl_index_314 rfl (lv_at hl 1 rfl) ?_
                                      refine lv_aload_n hx hb d_Mdl_index_315 rfl (lv_at hl 1 rfl) ?_
                                      refine lv_aload_n hx hb d_Mdl_index_316 rfl (lv_at hl 1 rfl) ?_
                                      refine gt_Mdl X hP 2 (by decide) (v := .int (S.1 1)) q_565 rfl d_Mdl_index_317 ?_
                                      refine lv_iconst (v := (1 : Int32)) hx hb d_Mdl_index_320 (by decide) ?_
                                      refine lv_iadd hx hb d_Mdl_index_321 ?_
                                      refine lv_iload_n hx hb d_Mdl_index_322 rfl (lv_at hl 0 rfl) ?_
                                      refine kv_vs (rest := [.ref (a 0)]) X hP hS (c_Mdl_result l D cB cI a bz ha S ((S.1 1) + (1 : Int32)) (f_Mdl_is S (16 : Int32))) (kw_Mdl_result hts q_749 ⟨Nat.le_of_ble_eq_true rfl, Nat.le_of_ble_eq_true rfl⟩) 0 rfl rfl rfl hl.1 rfl (lv_room (Nat.le_of_ble_eq_true rfl)) d_Mdl_index_323 (fun r86 S87 H locs e88 hP hS => ?_)
                                      refine pt_Mdl X hP hS 2 (by decide) (v := r86) (S1 := (pr S87 1 (r86))) q_565 rfl rfl rfl rfl d_Mdl_index_326 (fun H locs hP hS => ?_)
                                      refine lv_goto (tgt := 388) hx hb d_Mdl_index_329 rfl ?_
                                      refine lv_iconst (v := (1 : Int32)) hx hb d_Mdl_index_388 (by decide) ?_
                                      exact rt_z X hr hk hP hS (by decide) (by rw [f_Mdl_index, if_neg h1, if_neg h4, if_neg h7, if_neg h10, if_neg h14, if_neg h17, if_neg h20, if_neg h23, if_neg h30, if_neg h37, if_neg h44, if_neg h51, if_neg h58, if_neg h65, if_neg h71, if_neg h75, if_neg h79, if_pos h85, bn_eq e88]) d_Mdl_index_389
                                    ·
                                      refine sn_l (tgt := 386) hx hb d_Mdl_index_8 rfl ⟨lv_neT h1 rfl, lv_neT h4 rfl, lv_neT h7 rfl, lv_neT h10 rfl, lv_neT h14 rfl, lv_neT h17 rfl, lv_neT h20 rfl, lv_neT h23 rfl, lv_neT h30 rfl, lv_neT h37 rfl, lv_neT h44 rfl, lv_neT h51 rfl, lv_neT h58 rfl, lv_neT h65 rfl, lv_neT h71 rfl, lv_neT h75 rfl, lv_neT h79 rfl, lv_neT h85 rfl, trivial⟩ rfl ?_
                                      refine lv_iconst (v := (0 : Int32)) hx hb d_Mdl_index_386 (by decide) ?_
                                      exact rt_z X hr hk hP hS (by decide) (by rw [f_Mdl_index, if_neg h1, if_neg h4, if_neg h7, if_neg h10, if_neg h14, if_neg h17, if_neg h20, if_neg h23, if_neg h30, if_neg h37, if_neg h44, if_neg h51, if_neg h58, if_neg h65, if_neg h71, if_neg h75, if_neg h79, if_neg h85]) d_Mdl_index_387
