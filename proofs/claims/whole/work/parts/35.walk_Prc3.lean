set_option maxHeartbeats 4000000 in
set_option maxRecDepth 100000 in
theorem c_Prc_makeStep (l : Launch) (D : va_G) (cB cI : ClassId) (a : Nat → Nat) (bz : Nat) (ha : ap a 8) (S : Sc) : MV l y_Prc_makeStep b_Prc_makeStep 3 rm_Prc_makeStep [.ref (a 3)] D cB cI (wdC cB cI a) (ow a 8) bz S (f_Prc_makeStep S) := by
  refine met_in R_Prc (by decide) rfl (Nat.le_of_ble_eq_true rfl) (wdC_D ha cB cI) ?_
  intro p e s m below meth c ls X hr hk hl hP hS
  have hx := X.1.1
  have hb := X.1.2.1
  have hown := X.1.2.2.2.1
  have hts := X.1.2.2.2.2
  have hl : lv_has ls 3 [(0, .ref (a 3))] := hl
  refine lv_aload_n hx hb d_Prc_makeStep_0 rfl (lv_at hl 0 rfl) ?_
  refine lv_dup hx hb d_Prc_makeStep_1 rfl ?_
  refine gt_Prc X hP 7 (by decide) (v := .int (S.1 13)) q_204 rfl d_Prc_makeStep_2 ?_
  refine lv_iconst (v := (1 : Int32)) hx hb d_Prc_makeStep_5 (by decide) ?_
  refine lv_iadd hx hb d_Prc_makeStep_6 ?_
  refine pt_Prc X hP hS 7 (by decide) (v := ((S.1 13) + (1 : Int32))) (S1 := (pr S 13 (((S.1 13) + (1 : Int32))))) q_204 rfl rfl rfl rfl d_Prc_makeStep_7 (fun H locs hP hS => ?_)
  refine lv_aload_n hx hb d_Prc_makeStep_10 rfl (lv_at hl 0 rfl) ?_
  refine gt_Prc X hP 4 (by decide) (v := .int (S.1 10)) q_198 rfl d_Prc_makeStep_11 ?_
  refine lv_if_eq (tgt := 30) hx hb d_Prc_makeStep_14 rfl (fun h1 => ?_) (fun h1 => ?_)
  ·
    refine lv_aload_n hx hb d_Prc_makeStep_30 rfl (lv_at hl 0 rfl) ?_
    refine gt_Prc X hP 5 (by decide) (v := .int (S.1 11)) q_200 rfl d_Prc_makeStep_31 ?_
    refine lv_if_eq (tgt := 56) hx hb d_Prc_makeStep_34 rfl (fun h2 => ?_) (fun h2 => ?_)
    ·
      refine lv_aload_n hx hb d_Prc_makeStep_56 rfl (lv_at hl 0 rfl) ?_
      refine gt_Prc X hP 2 (by decide) (v := .ref (a 4)) q_196 rfl d_Prc_makeStep_57 ?_
      refine kv_vs (rest := []) X hP hS (c_Opd_nextByte l D cB cI a bz ha (pr S 13 (((S.1 13) + (1 : Int32))))) (kw_Opd_nextByte hts q_330 ⟨Nat.le_of_ble_eq_true rfl, Nat.le_of_ble_eq_true rfl⟩) 4 rfl rfl rfl hl.1 rfl (lv_room (Nat.le_of_ble_eq_true rfl)) d_Prc_makeStep_60 (fun r3 S4 H locs e5 hP hS => ?_)
      refine lv_istore_n hx hb d_Prc_makeStep_63 rfl hl (Nat.le_of_ble_eq_true rfl) rfl (fun ls hl => ?_)
      have hl : lv_has ls 3 [(1, .int (r3)), (0, .ref (a 3))] := hl
      refine lv_iload_n hx hb d_Prc_makeStep_64 rfl (lv_at hl 0 rfl) ?_
      refine lv_if_ne (tgt := 84) hx hb d_Prc_makeStep_65 rfl (fun h6 => ?_) (fun h6 => ?_)
      ·
        refine lv_aload_n hx hb d_Prc_makeStep_84 rfl (lv_at hl 1 rfl) ?_
        refine lv_iload_n hx hb d_Prc_makeStep_85 rfl (lv_at hl 0 rfl) ?_
        refine kv_vs (rest := []) X hP hS (c_Prc_useAccumulator l D cB cI a bz ha S4 r3) (kw_Prc_useAccumulator hts q_339 ⟨Nat.le_of_ble_eq_true rfl, Nat.le_of_ble_eq_true rfl⟩) 3 rfl rfl rfl hl.1 rfl (lv_room (Nat.le_of_ble_eq_true rfl)) d_Prc_makeStep_86 (fun r7 S8 H locs e9 hP hS => ?_)
        refine lv_if_ne (tgt := 180) hx hb d_Prc_makeStep_89 rfl (fun h10 => ?_) (fun h10 => ?_)
        ·
          refine lv_iconst (v := (1 : Int32)) hx hb d_Prc_makeStep_180 (by decide) ?_
          refine lv_goto (tgt := 185) hx hb d_Prc_makeStep_181 rfl ?_
          refine lv_istore_n hx hb d_Prc_makeStep_185 rfl hl (Nat.le_of_ble_eq_true rfl) rfl (fun ls hl => ?_)
          have hl : lv_has ls 3 [(2, .int ((1 : Int32))), (1, .int (r3)), (0, .ref (a 3))] := hl
          refine lv_aload_n hx hb d_Prc_makeStep_186 rfl (lv_at hl 2 rfl) ?_
          refine lv_iload_n hx hb d_Prc_makeStep_187 rfl (lv_at hl 0 rfl) ?_
          refine lv_if_ne (tgt := 195) hx hb d_Prc_makeStep_188 rfl (fun _ => ?_) (fun h => absurd h (by decide))
          refine lv_iconst (v := (0 : Int32)) hx hb d_Prc_makeStep_195 (by decide) ?_
          refine pt_Prc X hP hS 6 (by decide) (v := (0 : Int32)) (S1 := (pr S8 12 ((0 : Int32)))) q_202 rfl (by decide) rfl rfl d_Prc_makeStep_196 (fun H locs hP hS => ?_)
          exact rt_s X hr hk hP hS (by rw [f_Prc_makeStep, if_pos h1, if_pos h2, bn_eq e5, if_neg h6, bn_eq e9, if_neg h10]) d_Prc_makeStep_199
        ·
          refine lv_aload_n hx hb d_Prc_makeStep_92 rfl (lv_at hl 1 rfl) ?_
          refine lv_iload_n hx hb d_Prc_makeStep_93 rfl (lv_at hl 0 rfl) ?_
          refine kv_vs (rest := []) X hP hS (c_Prc_useIndex l D cB cI a bz ha S8 r3) (kw_Prc_useIndex hts q_424 ⟨Nat.le_of_ble_eq_true rfl, Nat.le_of_ble_eq_true rfl⟩) 3 rfl rfl rfl hl.1 rfl (lv_room (Nat.le_of_ble_eq_true rfl)) d_Prc_makeStep_94 (fun r11 S12 H locs e13 hP hS => ?_)
          refine lv_if_ne (tgt := 180) hx hb d_Prc_makeStep_97 rfl (fun h14 => ?_) (fun h14 => ?_)
          ·
            refine lv_iconst (v := (1 : Int32)) hx hb d_Prc_makeStep_180 (by decide) ?_
            refine lv_goto (tgt := 185) hx hb d_Prc_makeStep_181 rfl ?_
            refine lv_istore_n hx hb d_Prc_makeStep_185 rfl hl (Nat.le_of_ble_eq_true rfl) rfl (fun ls hl => ?_)
            have hl : lv_has ls 3 [(2, .int ((1 : Int32))), (1, .int (r3)), (0, .ref (a 3))] := hl
            refine lv_aload_n hx hb d_Prc_makeStep_186 rfl (lv_at hl 2 rfl) ?_
            refine lv_iload_n hx hb d_Prc_makeStep_187 rfl (lv_at hl 0 rfl) ?_
            refine lv_if_ne (tgt := 195) hx hb d_Prc_makeStep_188 rfl (fun _ => ?_) (fun h => absurd h (by decide))
            refine lv_iconst (v := (0 : Int32)) hx hb d_Prc_makeStep_195 (by decide) ?_
            refine pt_Prc X hP hS 6 (by decide) (v := (0 : Int32)) (S1 := (pr S12 12 ((0 : Int32)))) q_202 rfl (by decide) rfl rfl d_Prc_makeStep_196 (fun H locs hP hS => ?_)
            exact rt_s X hr hk hP hS (by rw [f_Prc_makeStep, if_pos h1, if_pos h2, bn_eq e5, if_neg h6, bn_eq e9, if_pos h10, bn_eq e13, if_neg h14]) d_Prc_makeStep_199
          ·
            refine lv_aload_n hx hb d_Prc_makeStep_100 rfl (lv_at hl 1 rfl) ?_
            refine lv_iload_n hx hb d_Prc_makeStep_101 rfl (lv_at hl 0 rfl) ?_
            refine kv_vs (rest := []) X hP hS (c_Prc_storeZero l D cB cI a bz ha S12 r3) (kw_Prc_storeZero hts q_437 ⟨Nat.le_of_ble_eq_true rfl, Nat.le_of_ble_eq_true rfl⟩) 3 rfl rfl rfl hl.1 rfl (lv_room (Nat.le_of_ble_eq_true rfl)) d_Prc_makeStep_102 (fun r15 S16 H locs e17 hP hS => ?_)
            refine lv_if_ne (tgt := 180) hx hb d_Prc_makeStep_105 rfl (fun h18 => ?_) (fun h18 => ?_)
            ·
              refine lv_iconst (v := (1 : Int32)) hx hb d_Prc_makeStep_180 (by decide) ?_
              refine lv_goto (tgt := 185) hx hb d_Prc_makeStep_181 rfl ?_
              refine lv_istore_n hx hb d_Prc_makeStep_185 rfl hl (Nat.le_of_ble_eq_true rfl) rfl (fun ls hl => ?_)
              have hl : lv_has ls 3 [(2, .int ((1 : Int32))), (1, .int (r3)), (0, .ref (a 3))] := hl
              refine lv_aload_n hx hb d_Prc_makeStep_186 rfl (lv_at hl 2 rfl) ?_
              refine lv_iload_n hx hb d_Prc_makeStep_187 rfl (lv_at hl 0 rfl) ?_
              refine lv_if_ne (tgt := 195) hx hb d_Prc_makeStep_188 rfl (fun _ => ?_) (fun h => absurd h (by decide))
              refine lv_iconst (v := (0 : Int32)) hx hb d_Prc_makeStep_195 (by decide) ?_
              refine pt_Prc X hP hS 6 (by decide) (v := (0 : Int32)) (S1 := (pr S16 12 ((0 : Int32)))) q_202 rfl (by decide) rfl rfl d_Prc_makeStep_196 (fun H locs hP hS => ?_)
              exact rt_s X hr hk hP hS (by rw [f_Prc_makeStep, if_pos h1, if_pos h2, bn_eq e5, if_neg h6, bn_eq e9, if_pos h10, bn_eq e13, if_pos h14, bn_eq e17, if_neg h18]) d_Prc_makeStep_199
            ·
              refine lv_aload_n hx hb d_Prc_makeStep_108 rfl (lv_at hl 1 rfl) ?_
              refine lv_iload_n hx hb d_Prc_makeStep_109 rfl (lv_at hl 0 rfl) ?_
              refine kv_vs (rest := []) X hP hS (c_Prc_changeMemory l D cB cI a bz ha S16 r3) (kw_Prc_changeMemory hts q_441 ⟨Nat.le_of_ble_eq_true rfl, Nat.le_of_ble_eq_true rfl⟩) 3 rfl rfl rfl hl.1 rfl (lv_room (Nat.le_of_ble_eq_true rfl)) d_Prc_makeStep_110 (fun r19 S20 H locs e21 hP hS => ?_)
              refine lv_if_ne (tgt := 180) hx hb d_Prc_makeStep_113 rfl (fun h22 => ?_) (fun h22 => ?_)
              ·
                refine lv_iconst (v := (1 : Int32)) hx hb d_Prc_makeStep_180 (by decide) ?_
                refine lv_goto (tgt := 185) hx hb d_Prc_makeStep_181 rfl ?_
                refine lv_istore_n hx hb d_Prc_makeStep_185 rfl hl (Nat.le_of_ble_eq_true rfl) rfl (fun ls hl => ?_)
                have hl : lv_has ls 3 [(2, .int ((1 : Int32))), (1, .int (r3)), (0, .ref (a 3))] := hl
                refine lv_aload_n hx hb d_Prc_makeStep_186 rfl (lv_at hl 2 rfl) ?_
                refine lv_iload_n hx hb d_Prc_makeStep_187 rfl (lv_at hl 0 rfl) ?_
                refine lv_if_ne (tgt := 195) hx hb d_Prc_makeStep_188 rfl (fun _ => ?_) (fun h => absurd h (by decide))
                refine lv_iconst (v := (0 : Int32)) hx hb d_Prc_makeStep_195 (by decide) ?_
                refine pt_Prc X hP hS 6 (by decide) (v := (0 : Int32)) (S1 := (pr S20 12 ((0 : Int32)))) q_202 rfl (by decide) rfl rfl d_Prc_makeStep_196 (fun H locs hP hS => ?_)
                exact rt_s X hr hk hP hS (by rw [f_Prc_makeStep, if_pos h1, if_pos h2, bn_eq e5, if_neg h6, bn_eq e9, if_pos h10, bn_eq e13, if_pos h14, bn_eq e17, if_pos h18, bn_eq e21, if_neg h22]) d_Prc_makeStep_199
              ·
                refine lv_aload_n hx hb d_Prc_makeStep_116 rfl (lv_at hl 1 rfl) ?_
                refine lv_iload_n hx hb d_Prc_makeStep_117 rfl (lv_at hl 0 rfl) ?_
                refine kv_vs (rest := []) X hP hS (c_Prc_changeRegister l D cB cI a bz ha S20 r3) (kw_Prc_changeRegister hts q_449 ⟨Nat.le_of_ble_eq_true rfl, Nat.le_of_ble_eq_true rfl⟩) 3 rfl rfl rfl hl.1 rfl (lv_room (Nat.le_of_ble_eq_true rfl)) d_Prc_makeStep_118 (fun r23 S24 H locs e25 hP hS => ?_)
                refine lv_if_ne (tgt := 180) hx hb d_Prc_makeStep_121 rfl (fun h26 => ?_) (fun h26 => ?_)
                ·
                  refine lv_iconst (v := (1 : Int32)) hx hb d_Prc_makeStep_180 (by decide) ?_
                  refine lv_goto (tgt := 185) hx hb d_Prc_makeStep_181 rfl ?_
                  refine lv_istore_n hx hb d_Prc_makeStep_185 rfl hl (Nat.le_of_ble_eq_true rfl) rfl (fun ls hl => ?_)
                  have hl : lv_has ls 3 [(2, .int ((1 : Int32))), (1, .int (r3)), (0, .ref (a 3))] := hl
                  refine lv_aload_n hx hb d_Prc_makeStep_186 rfl (lv_at hl 2 rfl) ?_
                  refine lv_iload_n hx hb d_Prc_makeStep_187 rfl (lv_at hl 0 rfl) ?_
                  refine lv_if_ne (tgt := 195) hx hb d_Prc_makeStep_188 rfl (fun _ => ?_) (fun h => absurd h (by decide))
                  refine lv_iconst (v := (0 : Int32)) hx hb d_Prc_makeStep_195 (by decide) ?_
                  refine pt_Prc X hP hS 6 (by decide) (v := (0 : Int32)) (S1 := (pr S24 12 ((0 : Int32)))) q_202 rfl (by decide) rfl rfl d_Prc_makeStep_196 (fun H locs hP hS => ?_)
                  exact rt_s X hr hk hP hS (by rw [f_Prc_makeStep, if_pos h1, if_pos h2, bn_eq e5, if_neg h6, bn_eq e9, if_pos h10, bn_eq e13, if_pos h14, bn_eq e17, if_pos h18, bn_eq e21, if_pos h22, bn_eq e25, if_neg h26]) d_Prc_makeStep_199
                ·
                  refine lv_aload_n hx hb d_Prc_makeStep_124 rfl (lv_at hl 1 rfl) ?_
                  refine lv_iload_n hx hb d_Prc_makeStep_125 rfl (lv_at hl 0 rfl) ?_
                  refine kv_vs (rest := []) X hP hS (c_Prc_transfer l D cB cI a bz ha S24 r3) (kw_Prc_transfer hts q_453 ⟨Nat.le_of_ble_eq_true rfl, Nat.le_of_ble_eq_true rfl⟩) 3 rfl rfl rfl hl.1 rfl (lv_room (Nat.le_of_ble_eq_true rfl)) d_Prc_makeStep_126 (fun r27 S28 H locs e29 hP hS => ?_)
                  refine lv_if_ne (tgt := 180) hx hb d_Prc_makeStep_129 rfl (fun h30 => ?_) (fun h30 => ?_)
                  ·
                    refine lv_iconst (v := (1 : Int32)) hx hb d_Prc_makeStep_180 (by decide) ?_
                    refine lv_goto (tgt := 185) hx hb d_Prc_makeStep_181 rfl ?_
                    refine lv_istore_n hx hb d_Prc_makeStep_185 rfl hl (Nat.le_of_ble_eq_true rfl) rfl (fun ls hl => ?_)
                    have hl : lv_has ls 3 [(2, .int ((1 : Int32))), (1, .int (r3)), (0, .ref (a 3))] := hl
                    refine lv_aload_n hx hb d_Prc_makeStep_186 rfl (lv_at hl 2 rfl) ?_
                    refine lv_iload_n hx hb d_Prc_makeStep_187 rfl (lv_at hl 0 rfl) ?_
                    refine lv_if_ne (tgt := 195) hx hb d_Prc_makeStep_188 rfl (fun _ => ?_) (fun h => absurd h (by decide))
                    refine lv_iconst (v := (0 : Int32)) hx hb d_Prc_makeStep_195 (by decide) ?_
                    refine pt_Prc X hP hS 6 (by decide) (v := (0 : Int32)) (S1 := (pr S28 12 ((0 : Int32)))) q_202 rfl (by decide) rfl rfl d_Prc_makeStep_196 (fun H locs hP hS => ?_)
                    exact rt_s X hr hk hP hS (by rw [f_Prc_makeStep, if_pos h1, if_pos h2, bn_eq e5, if_neg h6, bn_eq e9, if_pos h10, bn_eq e13, if_pos h14, bn_eq e17, if_pos h18, bn_eq e21, if_pos h22, bn_eq e25, if_pos h26, bn_eq e29, if_neg h30]) d_Prc_makeStep_199
                  ·
                    refine lv_aload_n hx hb d_Prc_makeStep_132 rfl (lv_at hl 1 rfl) ?_
                    refine lv_iload_n hx hb d_Prc_makeStep_133 rfl (lv_at hl 0 rfl) ?_
                    refine kv_vs (rest := []) X hP hS (c_Prc_push l D cB cI a bz ha S28 r3) (kw_Prc_push hts q_465 ⟨Nat.le_of_ble_eq_true rfl, Nat.le_of_ble_eq_true rfl⟩) 3 rfl rfl rfl hl.1 rfl (lv_room (Nat.le_of_ble_eq_true rfl)) d_Prc_makeStep_134 (fun r31 S32 H locs e33 hP hS => ?_)
                    refine lv_if_ne (tgt := 180) hx hb d_Prc_makeStep_137 rfl (fun h34 => ?_) (fun h34 => ?_)
                    ·
                      refine lv_iconst (v := (1 : Int32)) hx hb d_Prc_makeStep_180 (by decide) ?_
                      refine lv_goto (tgt := 185) hx hb d_Prc_makeStep_181 rfl ?_
                      refine lv_istore_n hx hb d_Prc_makeStep_185 rfl hl (Nat.le_of_ble_eq_true rfl) rfl (fun ls hl => ?_)
                      have hl : lv_has ls 3 [(2, .int ((1 : Int32))), (1, .int (r3)), (0, .ref (a 3))] := hl
                      refine lv_aload_n hx hb d_Prc_makeStep_186 rfl (lv_at hl 2 rfl) ?_
                      refine lv_iload_n hx hb d_Prc_makeStep_187 rfl (lv_at hl 0 rfl) ?_
                      refine lv_if_ne (tgt := 195) hx hb d_Prc_makeStep_188 rfl (fun _ => ?_) (fun h => absurd h (by decide))
                      refine lv_iconst (v := (0 : Int32)) hx hb d_Prc_makeStep_195 (by decide) ?_
                      refine pt_Prc X hP hS 6 (by decide) (v := (0 : Int32)) (S1 := (pr S32 12 ((0 : Int32)))) q_202 rfl (by decide) rfl rfl d_Prc_makeStep_196 (fun H locs hP hS => ?_)
                      exact rt_s X hr hk hP hS (by rw [f_Prc_makeStep, if_pos h1, if_pos h2, bn_eq e5, if_neg h6, bn_eq e9, if_pos h10, bn_eq e13, if_pos h14, bn_eq e17, if_pos h18, bn_eq e21, if_pos h22, bn_eq e25, if_pos h26, bn_eq e29, if_pos h30, bn_eq e33, if_neg h34]) d_Prc_makeStep_199
                    ·
                      refine lv_aload_n hx hb d_Prc_makeStep_140 rfl (lv_at hl 1 rfl) ?_
                      refine lv_iload_n hx hb d_Prc_makeStep_141 rfl (lv_at hl 0 rfl) ?_
                      refine kv_vs (rest := []) X hP hS (c_Prc_pull l D cB cI a bz ha S32 r3) (kw_Prc_pull hts q_474 ⟨Nat.le_of_ble_eq_true rfl, Nat.le_of_ble_eq_true rfl⟩) 3 rfl rfl rfl hl.1 rfl (lv_room (Nat.le_of_ble_eq_true rfl)) d_Prc_makeStep_142 (fun r35 S36 H locs e37 hP hS => ?_)
                      refine lv_if_ne (tgt := 180) hx hb d_Prc_makeStep_145 rfl (fun h38 => ?_) (fun h38 => ?_)
                      ·
                        refine lv_iconst (v := (1 : Int32)) hx hb d_Prc_makeStep_180 (by decide) ?_
                        refine lv_goto (tgt := 185) hx hb d_Prc_makeStep_181 rfl ?_
                        refine lv_istore_n hx hb d_Prc_makeStep_185 rfl hl (Nat.le_of_ble_eq_true rfl) rfl (fun ls hl => ?_)
                        have hl : lv_has ls 3 [(2, .int ((1 : Int32))), (1, .int (r3)), (0, .ref (a 3))] := hl
                        refine lv_aload_n hx hb d_Prc_makeStep_186 rfl (lv_at hl 2 rfl) ?_
                        refine lv_iload_n hx hb d_Prc_makeStep_187 rfl (lv_at hl 0 rfl) ?_
                        refine lv_if_ne (tgt := 195) hx hb d_Prc_makeStep_188 rfl (fun _ => ?_) (fun h => absurd h (by decide))
                        refine lv_iconst (v := (0 : Int32)) hx hb d_Prc_makeStep_195 (by decide) ?_
                        refine pt_Prc X hP hS 6 (by decide) (v := (0 : Int32)) (S1 := (pr S36 12 ((0 : Int32)))) q_202 rfl (by decide) rfl rfl d_Prc_makeStep_196 (fun H locs hP hS => ?_)
                        exact rt_s X hr hk hP hS (by rw [f_Prc_makeStep, if_pos h1, if_pos h2, bn_eq e5, if_neg h6, bn_eq e9, if_pos h10, bn_eq e13, if_pos h14, bn_eq e17, if_pos h18, bn_eq e21, if_pos h22, bn_eq e25, if_pos h26, bn_eq e29, if_pos h30, bn_eq e33, if_pos h34, bn_eq e37, if_neg h38]) d_Prc_makeStep_199
                      ·
                        refine lv_aload_n hx hb d_Prc_makeStep_148 rfl (lv_at hl 1 rfl) ?_
                        refine lv_iload_n hx hb d_Prc_makeStep_149 rfl (lv_at hl 0 rfl) ?_
                        refine kv_vs (rest := []) X hP hS (c_Prc_branch l D cB cI a bz ha S36 r3 (rng_nb e5)) (kw_Prc_branch hts q_498 ⟨Nat.le_of_ble_eq_true rfl, Nat.le_of_ble_eq_true rfl⟩) 3 rfl rfl rfl hl.1 rfl (lv_room (Nat.le_of_ble_eq_true rfl)) d_Prc_makeStep_150 (fun r39 S40 H locs e41 hP hS => ?_)
                        refine lv_if_ne (tgt := 180) hx hb d_Prc_makeStep_153 rfl (fun h42 => ?_) (fun h42 => ?_)
                        ·
                          refine lv_iconst (v := (1 : Int32)) hx hb d_Prc_makeStep_180 (by decide) ?_
                          refine lv_goto (tgt := 185) hx hb d_Prc_makeStep_181 rfl ?_
                          refine lv_istore_n hx hb d_Prc_makeStep_185 rfl hl (Nat.le_of_ble_eq_true rfl) rfl (fun ls hl => ?_)
                          have hl : lv_has ls 3 [(2, .int ((1 : Int32))), (1, .int (r3)), (0, .ref (a 3))] := hl
                          refine lv_aload_n hx hb d_Prc_makeStep_186 rfl (lv_at hl 2 rfl) ?_
                          refine lv_iload_n hx hb d_Prc_makeStep_187 rfl (lv_at hl 0 rfl) ?_
                          refine lv_if_ne (tgt := 195) hx hb d_Prc_makeStep_188 rfl (fun _ => ?_) (fun h => absurd h (by decide))
                          refine lv_iconst (v := (0 : Int32)) hx hb d_Prc_makeStep_195 (by decide) ?_
                          refine pt_Prc X hP hS 6 (by decide) (v := (0 : Int32)) (S1 := (pr S40 12 ((0 : Int32)))) q_202 rfl (by decide) rfl rfl d_Prc_makeStep_196 (fun H locs hP hS => ?_)
                          exact rt_s X hr hk hP hS (by rw [f_Prc_makeStep, if_pos h1, if_pos h2, bn_eq e5, if_neg h6, bn_eq e9, if_pos h10, bn_eq e13, if_pos h14, bn_eq e17, if_pos h18, bn_eq e21, if_pos h22, bn_eq e25, if_pos h26, bn_eq e29, if_pos h30, bn_eq e33, if_pos h34, bn_eq e37, if_pos h38, bn_eq e41, if_neg h42]) d_Prc_makeStep_199
                        ·
                          refine lv_aload_n hx hb d_Prc_makeStep_156 rfl (lv_at hl 1 rfl) ?_
                          refine lv_iload_n hx hb d_Prc_makeStep_157 rfl (lv_at hl 0 rfl) ?_
                          refine kv_vs (rest := []) X hP hS (c_Prc_jump l D cB cI a bz ha S40 r3) (kw_Prc_jump hts q_508 ⟨Nat.le_of_ble_eq_true rfl, Nat.le_of_ble_eq_true rfl⟩) 3 rfl rfl rfl hl.1 rfl (lv_room (Nat.le_of_ble_eq_true rfl)) d_Prc_makeStep_158 (fun r43 S44 H locs e45 hP hS => ?_)
                          refine lv_if_ne (tgt := 180) hx hb d_Prc_makeStep_161 rfl (fun h46 => ?_) (fun h46 => ?_)
                          ·
                            refine lv_iconst (v := (1 : Int32)) hx hb d_Prc_makeStep_180 (by decide) ?_
                            refine lv_goto (tgt := 185) hx hb d_Prc_makeStep_181 rfl ?_
                            refine lv_istore_n hx hb d_Prc_makeStep_185 rfl hl (Nat.le_of_ble_eq_true rfl) rfl (fun ls hl => ?_)
                            have hl : lv_has ls 3 [(2, .int ((1 : Int32))), (1, .int (r3)), (0, .ref (a 3))] := hl
                            refine lv_aload_n hx hb d_Prc_makeStep_186 rfl (lv_at hl 2 rfl) ?_
                            refine lv_iload_n hx hb d_Prc_makeStep_187 rfl (lv_at hl 0 rfl) ?_
                            refine lv_if_ne (tgt := 195) hx hb d_Prc_makeStep_188 rfl (fun _ => ?_) (fun h => absurd h (by decide))
                            refine lv_iconst (v := (0 : Int32)) hx hb d_Prc_makeStep_195 (by decide) ?_
                            refine pt_Prc X hP hS 6 (by decide) (v := (0 : Int32)) (S1 := (pr S44 12 ((0 : Int32)))) q_202 rfl (by decide) rfl rfl d_Prc_makeStep_196 (fun H locs hP hS => ?_)
                            exact rt_s X hr hk hP hS (by rw [f_Prc_makeStep, if_pos h1, if_pos h2, bn_eq e5, if_neg h6, bn_eq e9, if_pos h10, bn_eq e13, if_pos h14, bn_eq e17, if_pos h18, bn_eq e21, if_pos h22, bn_eq e25, if_pos h26, bn_eq e29, if_pos h30, bn_eq e33, if_pos h34, bn_eq e37, if_pos h38, bn_eq e41, if_pos h42, bn_eq e45, if_neg h46]) d_Prc_makeStep_199
                          ·
                            refine lv_aload_n hx hb d_Prc_makeStep_164 rfl (lv_at hl 1 rfl) ?_
                            refine lv_iload_n hx hb d_Prc_makeStep_165 rfl (lv_at hl 0 rfl) ?_
                            refine kv_vs (rest := []) X hP hS (c_Prc_changeFlags l D cB cI a bz ha S44 r3) (kw_Prc_changeFlags hts q_518 ⟨Nat.le_of_ble_eq_true rfl, Nat.le_of_ble_eq_true rfl⟩) 3 rfl rfl rfl hl.1 rfl (lv_room (Nat.le_of_ble_eq_true rfl)) d_Prc_makeStep_166 (fun r47 S48 H locs e49 hP hS => ?_)
                            refine lv_if_ne (tgt := 180) hx hb d_Prc_makeStep_169 rfl (fun h50 => ?_) (fun h50 => ?_)
                            ·
                              refine lv_iconst (v := (1 : Int32)) hx hb d_Prc_makeStep_180 (by decide) ?_
                              refine lv_goto (tgt := 185) hx hb d_Prc_makeStep_181 rfl ?_
                              refine lv_istore_n hx hb d_Prc_makeStep_185 rfl hl (Nat.le_of_ble_eq_true rfl) rfl (fun ls hl => ?_)
                              have hl : lv_has ls 3 [(2, .int ((1 : Int32))), (1, .int (r3)), (0, .ref (a 3))] := hl
                              refine lv_aload_n hx hb d_Prc_makeStep_186 rfl (lv_at hl 2 rfl) ?_
                              refine lv_iload_n hx hb d_Prc_makeStep_187 rfl (lv_at hl 0 rfl) ?_
                              refine lv_if_ne (tgt := 195) hx hb d_Prc_makeStep_188 rfl (fun _ => ?_) (fun h => absurd h (by decide))
                              refine lv_iconst (v := (0 : Int32)) hx hb d_Prc_makeStep_195 (by decide) ?_
                              refine pt_Prc X hP hS 6 (by decide) (v := (0 : Int32)) (S1 := (pr S48 12 ((0 : Int32)))) q_202 rfl (by decide) rfl rfl d_Prc_makeStep_196 (fun H locs hP hS => ?_)
                              exact rt_s X hr hk hP hS (by rw [f_Prc_makeStep, if_pos h1, if_pos h2, bn_eq e5, if_neg h6, bn_eq e9, if_pos h10, bn_eq e13, if_pos h14, bn_eq e17, if_pos h18, bn_eq e21, if_pos h22, bn_eq e25, if_pos h26, bn_eq e29, if_pos h30, bn_eq e33, if_pos h34, bn_eq e37, if_pos h38, bn_eq e41, if_pos h42, bn_eq e45, if_pos h46, bn_eq e49, if_neg h50]) d_Prc_makeStep_199
                            ·
                              refine lv_aload_n hx hb d_Prc_makeStep_172 rfl (lv_at hl 1 rfl) ?_
                              refine lv_iload_n hx hb d_Prc_makeStep_173 rfl (lv_at hl 0 rfl) ?_
                              refine kv_vs (rest := []) X hP hS (c_Prc_moveBlock l D cB cI a bz ha S48 r3) (kw_Prc_moveBlock hts q_522 ⟨Nat.le_of_ble_eq_true rfl, Nat.le_of_ble_eq_true rfl⟩) 3 rfl rfl rfl hl.1 rfl (lv_room (Nat.le_of_ble_eq_true rfl)) d_Prc_makeStep_174 (fun r51 S52 H locs e53 hP hS => ?_)
                              refine lv_if_eq (tgt := 184) hx hb d_Prc_makeStep_177 rfl (fun h54 => ?_) (fun h54 => ?_)
                              ·
                                refine lv_iconst (v := (0 : Int32)) hx hb d_Prc_makeStep_184 (by decide) ?_
                                refine lv_istore_n hx hb d_Prc_makeStep_185 rfl hl (Nat.le_of_ble_eq_true rfl) rfl (fun ls hl => ?_)
                                have hl : lv_has ls 3 [(2, .int ((0 : Int32))), (1, .int (r3)), (0, .ref (a 3))] := hl
                                refine lv_aload_n hx hb d_Prc_makeStep_186 rfl (lv_at hl 2 rfl) ?_
                                refine lv_iload_n hx hb d_Prc_makeStep_187 rfl (lv_at hl 0 rfl) ?_
                                refine lv_if_ne (tgt := 195) hx hb d_Prc_makeStep_188 rfl (fun h => absurd (by decide) h) (fun _ => ?_)
                                refine lv_iconst (v := (1 : Int32)) hx hb d_Prc_makeStep_191 (by decide) ?_
                                refine lv_goto (tgt := 196) hx hb d_Prc_makeStep_192 rfl ?_
                                refine pt_Prc X hP hS 6 (by decide) (v := (1 : Int32)) (S1 := (pr S52 12 ((1 : Int32)))) q_202 rfl (by decide) rfl rfl d_Prc_makeStep_196 (fun H locs hP hS => ?_)
                                exact rt_s X hr hk hP hS (by rw [f_Prc_makeStep, if_pos h1, if_pos h2, bn_eq e5, if_neg h6, bn_eq e9, if_pos h10, bn_eq e13, if_pos h14, bn_eq e17, if_pos h18, bn_eq e21, if_pos h22, bn_eq e25, if_pos h26, bn_eq e29, if_pos h30, bn_eq e33, if_pos h34, bn_eq e37, if_pos h38, bn_eq e41, if_pos h42, bn_eq e45, if_pos h46, bn_eq e49, if_pos h50, bn_eq e53, if_pos h54]) d_Prc_makeStep_199
                              ·
                                refine lv_iconst (v := (1 : Int32)) hx hb d_Prc_makeStep_180 (by decide) ?_
                                refine lv_goto (tgt := 185) hx hb d_Prc_makeStep_181 rfl ?_
                                refine lv_istore_n hx hb d_Prc_makeStep_185 rfl hl (Nat.le_of_ble_eq_true rfl) rfl (fun ls hl => ?_)
                                have hl : lv_has ls 3 [(2, .int ((1 : Int32))), (1, .int (r3)), (0, .ref (a 3))] := hl
                                refine lv_aload_n hx hb d_Prc_makeStep_186 rfl (lv_at hl 2 rfl) ?_
                                refine lv_iload_n hx hb d_Prc_makeStep_187 rfl (lv_at hl 0 rfl) ?_
                                refine lv_if_ne (tgt := 195) hx hb d_Prc_makeStep_188 rfl (fun _ => ?_) (fun h => absurd h (by decide))
                                refine lv_iconst (v := (0 : Int32)) hx hb d_Prc_makeStep_195 (by decide) ?_
                                refine pt_Prc X hP hS 6 (by decide) (v := (0 : Int32)) (S1 := (pr S52 12 ((0 : Int32)))) q_202 rfl (by decide) rfl rfl d_Prc_makeStep_196 (fun H locs hP hS => ?_)
                                exact rt_s X hr hk hP hS (by rw [f_Prc_makeStep, if_pos h1, if_pos h2, bn_eq e5, if_neg h6, bn_eq e9, if_pos h10, bn_eq e13, if_pos h14, bn_eq e17, if_pos h18, bn_eq e21, if_pos h22, bn_eq e25, if_pos h26, bn_eq e29, if_pos h30, bn_eq e33, if_pos h34, bn_eq e37, if_pos h38, bn_eq e41, if_pos h42, bn_eq e45, if_pos h46, bn_eq e49, if_pos h50, bn_eq e53, if_neg h54]) d_Prc_makeStep_199
      ·
        refine lv_aload_n hx hb d_Prc_makeStep_68 rfl (lv_at hl 1 rfl) ?_
        refine gt_Prc X hP 2 (by decide) (v := .ref (a 4)) q_196 rfl d_Prc_makeStep_69 ?_
        refine kv_vs (rest := []) X hP hS (c_Opd_nextByte l D cB cI a bz ha S4) (kw_Opd_nextByte hts q_330 ⟨Nat.le_of_ble_eq_true rfl, Nat.le_of_ble_eq_true rfl⟩) 4 rfl rfl rfl hl.1 rfl (lv_room (Nat.le_of_ble_eq_true rfl)) d_Prc_makeStep_72 (fun r55 S56 H locs e57 hP hS => ?_)
        refine lv_pop hx hb d_Prc_makeStep_75 rfl ?_
        refine lv_aload_n hx hb d_Prc_makeStep_76 rfl (lv_at hl 1 rfl) ?_
        refine lv_sipush (v := (486 : Int32)) hx hb d_Prc_makeStep_77 (by decide) ?_
        refine kv_s (rest := []) X hP hS (c_Prc_enterInterrupt l D cB cI a bz ha S56 (486 : Int32)) (kw_Prc_enterInterrupt hts q_279 ⟨Nat.le_of_ble_eq_true rfl, Nat.le_of_ble_eq_true rfl⟩) 3 rfl rfl rfl hl.1 rfl (lv_room (Nat.le_of_ble_eq_true rfl)) d_Prc_makeStep_80 (fun S58 H locs e59 hP hS => ?_)
        exact rt_s X hr hk hP hS (by rw [f_Prc_makeStep, if_pos h1, if_pos h2, bn_eq e5, if_pos h6, bn_eq e57, bs_eq e59]) d_Prc_makeStep_83
    ·
      refine lv_aload_n hx hb d_Prc_makeStep_37 rfl (lv_at hl 0 rfl) ?_
      refine gt_Prc X hP 1 (by decide) (v := .ref (a 2)) q_195 rfl d_Prc_makeStep_38 ?_
      refine lv_iconst (v := (4 : Int32)) hx hb d_Prc_makeStep_41 (by decide) ?_
      refine kv_v (rest := []) X hP hS (c_Reg_has l D cB cI a bz ha (pr S 13 (((S.1 13) + (1 : Int32)))) (4 : Int32)) (kw_Reg_has hts q_326 ⟨Nat.le_of_ble_eq_true rfl, Nat.le_of_ble_eq_true rfl⟩) 2 rfl rfl rfl hl.1 rfl (lv_room (Nat.le_of_ble_eq_true rfl)) d_Prc_makeStep_42 (fun H locs hP hS => ?_)
      refine lv_if_ne (tgt := 56) hx hb d_Prc_makeStep_45 rfl (fun h60 => ?_) (fun h60 => ?_)
      ·
        refine lv_aload_n hx hb d_Prc_makeStep_56 rfl (lv_at hl 0 rfl) ?_
        refine gt_Prc X hP 2 (by decide) (v := .ref (a 4)) q_196 rfl d_Prc_makeStep_57 ?_
        refine kv_vs (rest := []) X hP hS (c_Opd_nextByte l D cB cI a bz ha (pr S 13 (((S.1 13) + (1 : Int32))))) (kw_Opd_nextByte hts q_330 ⟨Nat.le_of_ble_eq_true rfl, Nat.le_of_ble_eq_true rfl⟩) 4 rfl rfl rfl hl.1 rfl (lv_room (Nat.le_of_ble_eq_true rfl)) d_Prc_makeStep_60 (fun r61 S62 H locs e63 hP hS => ?_)
        refine lv_istore_n hx hb d_Prc_makeStep_63 rfl hl (Nat.le_of_ble_eq_true rfl) rfl (fun ls hl => ?_)
        have hl : lv_has ls 3 [(1, .int (r61)), (0, .ref (a 3))] := hl
        refine lv_iload_n hx hb d_Prc_makeStep_64 rfl (lv_at hl 0 rfl) ?_
        refine lv_if_ne (tgt := 84) hx hb d_Prc_makeStep_65 rfl (fun h64 => ?_) (fun h64 => ?_)
        ·
          refine lv_aload_n hx hb d_Prc_makeStep_84 rfl (lv_at hl 1 rfl) ?_
          refine lv_iload_n hx hb d_Prc_makeStep_85 rfl (lv_at hl 0 rfl) ?_
          refine kv_vs (rest := []) X hP hS (c_Prc_useAccumulator l D cB cI a bz ha S62 r61) (kw_Prc_useAccumulator hts q_339 ⟨Nat.le_of_ble_eq_true rfl, Nat.le_of_ble_eq_true rfl⟩) 3 rfl rfl rfl hl.1 rfl (lv_room (Nat.le_of_ble_eq_true rfl)) d_Prc_makeStep_86 (fun r65 S66 H locs e67 hP hS => ?_)
          refine lv_if_ne (tgt := 180) hx hb d_Prc_makeStep_89 rfl (fun h68 => ?_) (fun h68 => ?_)
          ·
            refine lv_iconst (v := (1 : Int32)) hx hb d_Prc_makeStep_180 (by decide) ?_
            refine lv_goto (tgt := 185) hx hb d_Prc_makeStep_181 rfl ?_
            refine lv_istore_n hx hb d_Prc_makeStep_185 rfl hl (Nat.le_of_ble_eq_true rfl) rfl (fun ls hl => ?_)
            have hl : lv_has ls 3 [(2, .int ((1 : Int32))), (1, .int (r61)), (0, .ref (a 3))] := hl
            refine lv_aload_n hx hb d_Prc_makeStep_186 rfl (lv_at hl 2 rfl) ?_
            refine lv_iload_n hx hb d_Prc_makeStep_187 rfl (lv_at hl 0 rfl) ?_
            refine lv_if_ne (tgt := 195) hx hb d_Prc_makeStep_188 rfl (fun _ => ?_) (fun h => absurd h (by decide))
            refine lv_iconst (v := (0 : Int32)) hx hb d_Prc_makeStep_195 (by decide) ?_
            refine pt_Prc X hP hS 6 (by decide) (v := (0 : Int32)) (S1 := (pr S66 12 ((0 : Int32)))) q_202 rfl (by decide) rfl rfl d_Prc_makeStep_196 (fun H locs hP hS => ?_)
            exact rt_s X hr hk hP hS (by rw [f_Prc_makeStep, if_pos h1, if_neg h2, if_neg h60, bn_eq e63, if_neg h64, bn_eq e67, if_neg h68]) d_Prc_makeStep_199
          ·
            refine lv_aload_n hx hb d_Prc_makeStep_92 rfl (lv_at hl 1 rfl) ?_
            refine lv_iload_n hx hb d_Prc_makeStep_93 rfl (lv_at hl 0 rfl) ?_
            refine kv_vs (rest := []) X hP hS (c_Prc_useIndex l D cB cI a bz ha S66 r61) (kw_Prc_useIndex hts q_424 ⟨Nat.le_of_ble_eq_true rfl, Nat.le_of_ble_eq_true rfl⟩) 3 rfl rfl rfl hl.1 rfl (lv_room (Nat.le_of_ble_eq_true rfl)) d_Prc_makeStep_94 (fun r69 S70 H locs e71 hP hS => ?_)
            refine lv_if_ne (tgt := 180) hx hb d_Prc_makeStep_97 rfl (fun h72 => ?_) (fun h72 => ?_)
            ·
              refine lv_iconst (v := (1 : Int32)) hx hb d_Prc_makeStep_180 (by decide) ?_
              refine lv_goto (tgt := 185) hx hb d_Prc_makeStep_181 rfl ?_
              refine lv_istore_n hx hb d_Prc_makeStep_185 rfl hl (Nat.le_of_ble_eq_true rfl) rfl (fun ls hl => ?_)
              have hl : lv_has ls 3 [(2, .int ((1 : Int32))), (1, .int (r61)), (0, .ref (a 3))] := hl
              refine lv_aload_n hx hb d_Prc_makeStep_186 rfl (lv_at hl 2 rfl) ?_
              refine lv_iload_n hx hb d_Prc_makeStep_187 rfl (lv_at hl 0 rfl) ?_
              refine lv_if_ne (tgt := 195) hx hb d_Prc_makeStep_188 rfl (fun _ => ?_) (fun h => absurd h (by decide))
              refine lv_iconst (v := (0 : Int32)) hx hb d_Prc_makeStep_195 (by decide) ?_
              refine pt_Prc X hP hS 6 (by decide) (v := (0 : Int32)) (S1 := (pr S70 12 ((0 : Int32)))) q_202 rfl (by decide) rfl rfl d_Prc_makeStep_196 (fun H locs hP hS => ?_)
              exact rt_s X hr hk hP hS (by rw [f_Prc_makeStep, if_pos h1, if_neg h2, if_neg h60, bn_eq e63, if_neg h64, bn_eq e67, if_pos h68, bn_eq e71, if_neg h72]) d_Prc_makeStep_199
            ·
              refine lv_aload_n hx hb d_Prc_makeStep_100 rfl (lv_at hl 1 rfl) ?_
              refine lv_iload_n hx hb d_Prc_makeStep_101 rfl (lv_at hl 0 rfl) ?_
              refine kv_vs (rest := []) X hP hS (c_Prc_storeZero l D cB cI a bz ha S70 r61) (kw_Prc_storeZero hts q_437 ⟨Nat.le_of_ble_eq_true rfl, Nat.le_of_ble_eq_true rfl⟩) 3 rfl rfl rfl hl.1 rfl (lv_room (Nat.le_of_ble_eq_true rfl)) d_Prc_makeStep_102 (fun r73 S74 H locs e75 hP hS => ?_)
              refine lv_if_ne (tgt := 180) hx hb d_Prc_makeStep_105 rfl (fun h76 => ?_) (fun h76 => ?_)
              ·
                refine lv_iconst (v := (1 : Int32)) hx hb d_Prc_makeStep_180 (by decide) ?_
                refine lv_goto (tgt := 185) hx hb d_Prc_makeStep_181 rfl ?_
                refine lv_istore_n hx hb d_Prc_makeStep_185 rfl hl (Nat.le_of_ble_eq_true rfl) rfl (fun ls hl => ?_)
                have hl : lv_has ls 3 [(2, .int ((1 : Int32))), (1, .int (r61)), (0, .ref (a 3))] := hl
                refine lv_aload_n hx hb d_Prc_makeStep_186 rfl (lv_at hl 2 rfl) ?_
                refine lv_iload_n hx hb d_Prc_makeStep_187 rfl (lv_at hl 0 rfl) ?_
                refine lv_if_ne (tgt := 195) hx hb d_Prc_makeStep_188 rfl (fun _ => ?_) (fun h => absurd h (by decide))
                refine lv_iconst (v := (0 : Int32)) hx hb d_Prc_makeStep_195 (by decide) ?_
                refine pt_Prc X hP hS 6 (by decide) (v := (0 : Int32)) (S1 := (pr S74 12 ((0 : Int32)))) q_202 rfl (by decide) rfl rfl d_Prc_makeStep_196 (fun H locs hP hS => ?_)
                exact rt_s X hr hk hP hS (by rw [f_Prc_makeStep, if_pos h1, if_neg h2, if_neg h60, bn_eq e63, if_neg h64, bn_eq e67, if_pos h68, bn_eq e71, if_pos h72, bn_eq e75, if_neg h76]) d_Prc_makeStep_199
              ·
                refine lv_aload_n hx hb d_Prc_makeStep_108 rfl (lv_at hl 1 rfl) ?_
                refine lv_iload_n hx hb d_Prc_makeStep_109 rfl (lv_at hl 0 rfl) ?_
                refine kv_vs (rest := []) X hP hS (c_Prc_changeMemory l D cB cI a bz ha S74 r61) (kw_Prc_changeMemory hts q_441 ⟨Nat.le_of_ble_eq_true rfl, Nat.le_of_ble_eq_true rfl⟩) 3 rfl rfl rfl hl.1 rfl (lv_room (Nat.le_of_ble_eq_true rfl)) d_Prc_makeStep_110 (fun r77 S78 H locs e79 hP hS => ?_)
                refine lv_if_ne (tgt := 180) hx hb d_Prc_makeStep_113 rfl (fun h80 => ?_) (fun h80 => ?_)
                ·
                  refine lv_iconst (v := (1 : Int32)) hx hb d_Prc_makeStep_180 (by decide) ?_
                  refine lv_goto (tgt := 185) hx hb d_Prc_makeStep_181 rfl ?_
                  refine lv_istore_n hx hb d_Prc_makeStep_185 rfl hl (Nat.le_of_ble_eq_true rfl) rfl (fun ls hl => ?_)
                  have hl : lv_has ls 3 [(2, .int ((1 : Int32))), (1, .int (r61)), (0, .ref (a 3))] := hl
                  refine lv_aload_n hx hb d_Prc_makeStep_186 rfl (lv_at hl 2 rfl) ?_
                  refine lv_iload_n hx hb d_Prc_makeStep_187 rfl (lv_at hl 0 rfl) ?_
                  refine lv_if_ne (tgt := 195) hx hb d_Prc_makeStep_188 rfl (fun _ => ?_) (fun h => absurd h (by decide))
                  refine lv_iconst (v := (0 : Int32)) hx hb d_Prc_makeStep_195 (by decide) ?_
                  refine pt_Prc X hP hS 6 (by decide) (v := (0 : Int32)) (S1 := (pr S78 12 ((0 : Int32)))) q_202 rfl (by decide) rfl rfl d_Prc_makeStep_196 (fun H locs hP hS => ?_)
                  exact rt_s X hr hk hP hS (by rw [f_Prc_makeStep, if_pos h1, if_neg h2, if_neg h60, bn_eq e63, if_neg h64, bn_eq e67, if_pos h68, bn_eq e71, if_pos h72, bn_eq e75, if_pos h76, bn_eq e79, if_neg h80]) d_Prc_makeStep_199
                ·
                  refine lv_aload_n hx hb d_Prc_makeStep_116 rfl (lv_at hl 1 rfl) ?_
                  refine lv_iload_n hx hb d_Prc_makeStep_117 rfl (lv_at hl 0 rfl) ?_
                  refine kv_vs (rest := []) X hP hS (c_Prc_changeRegister l D cB cI a bz ha S78 r61) (kw_Prc_changeRegister hts q_449 ⟨Nat.le_of_ble_eq_true rfl, Nat.le_of_ble_eq_true rfl⟩) 3 rfl rfl rfl hl.1 rfl (lv_room (Nat.le_of_ble_eq_true rfl)) d_Prc_makeStep_118 (fun r81 S82 H locs e83 hP hS => ?_)
                  refine lv_if_ne (tgt := 180) hx hb d_Prc_makeStep_121 rfl (fun h84 => ?_) (fun h84 => ?_)
                  ·
                    refine lv_iconst (v := (1 : Int32)) hx hb d_Prc_makeStep_180 (by decide) ?_
                    refine lv_goto (tgt := 185) hx hb d_Prc_makeStep_181 rfl ?_
                    refine lv_istore_n hx hb d_Prc_makeStep_185 rfl hl (Nat.le_of_ble_eq_true rfl) rfl (fun ls hl => ?_)
                    have hl : lv_has ls 3 [(2, .int ((1 : Int32))), (1, .int (r61)), (0, .ref (a 3))] := hl
                    refine lv_aload_n hx hb d_Prc_makeStep_186 rfl (lv_at hl 2 rfl) ?_
                    refine lv_iload_n hx hb d_Prc_makeStep_187 rfl (lv_at hl 0 rfl) ?_
                    refine lv_if_ne (tgt := 195) hx hb d_Prc_makeStep_188 rfl (fun _ => ?_) (fun h => absurd h (by decide))
                    refine lv_iconst (v := (0 : Int32)) hx hb d_Prc_makeStep_195 (by decide) ?_
                    refine pt_Prc X hP hS 6 (by decide) (v := (0 : Int32)) (S1 := (pr S82 12 ((0 : Int32)))) q_202 rfl (by decide) rfl rfl d_Prc_makeStep_196 (fun H locs hP hS => ?_)
                    exact rt_s X hr hk hP hS (by rw [f_Prc_makeStep, if_pos h1, if_neg h2, if_neg h60, bn_eq e63, if_neg h64, bn_eq e67, if_pos h68, bn_eq e71, if_pos h72, bn_eq e75, if_pos h76, bn_eq e79, if_pos h80, bn_eq e83, if_neg h84]) d_Prc_makeStep_199
                  ·
                    refine lv_aload_n hx hb d_Prc_makeStep_124 rfl (lv_at hl 1 rfl) ?_
                    refine lv_iload_n hx hb d_Prc_makeStep_125 rfl (lv_at hl 0 rfl) ?_
                    refine kv_vs (rest := []) X hP hS (c_Prc_transfer l D cB cI a bz ha S82 r61) (kw_Prc_transfer hts q_453 ⟨Nat.le_of_ble_eq_true rfl, Nat.le_of_ble_eq_true rfl⟩) 3 rfl rfl rfl hl.1 rfl (lv_room (Nat.le_of_ble_eq_true rfl)) d_Prc_makeStep_126 (fun r85 S86 H locs e87 hP hS => ?_)
                    refine lv_if_ne (tgt := 180) hx hb d_Prc_makeStep_129 rfl (fun h88 => ?_) (fun h88 => ?_)
                    ·
                      refine lv_iconst (v := (1 : Int32)) hx hb d_Prc_makeStep_180 (by decide) ?_
                      refine lv_goto (tgt := 185) hx hb d_Prc_makeStep_181 rfl ?_
                      refine lv_istore_n hx hb d_Prc_makeStep_185 rfl hl (Nat.le_of_ble_eq_true rfl) rfl (fun ls hl => ?_)
                      have hl : lv_has ls 3 [(2, .int ((1 : Int32))), (1, .int (r61)), (0, .ref (a 3))] := hl
                      refine lv_aload_n hx hb d_Prc_makeStep_186 rfl (lv_at hl 2 rfl) ?_
                      refine lv_iload_n hx hb d_Prc_makeStep_187 rfl (lv_at hl 0 rfl) ?_
                      refine lv_if_ne (tgt := 195) hx hb d_Prc_makeStep_188 rfl (fun _ => ?_) (fun h => absurd h (by decide))
                      refine lv_iconst (v := (0 : Int32)) hx hb d_Prc_makeStep_195 (by decide) ?_
                      refine pt_Prc X hP hS 6 (by decide) (v := (0 : Int32)) (S1 := (pr S86 12 ((0 : Int32)))) q_202 rfl (by decide) rfl rfl d_Prc_makeStep_196 (fun H locs hP hS => ?_)
                      exact rt_s X hr hk hP hS (by rw [f_Prc_makeStep, if_pos h1, if_neg h2, if_neg h60, bn_eq e63, if_neg h64, bn_eq e67, if_pos h68, bn_eq e71, if_pos h72, bn_eq e75, if_pos h76, bn_eq e79, if_pos h80, bn_eq e83, if_pos h84, bn_eq e87, if_neg h88]) d_Prc_makeStep_199
                    ·
                      refine lv_aload_n hx hb d_Prc_makeStep_132 rfl (lv_at hl 1 rfl) ?_
                      refine lv_iload_n hx hb d_Prc_makeStep_133 rfl (lv_at hl 0 rfl) ?_
                      refine kv_vs (rest := []) X hP hS (c_Prc_push l D cB cI a bz ha S86 r61) (kw_Prc_push hts q_465 ⟨Nat.le_of_ble_eq_true rfl, Nat.le_of_ble_eq_true rfl⟩) 3 rfl rfl rfl hl.1 rfl (lv_room (Nat.le_of_ble_eq_true rfl)) d_Prc_makeStep_134 (fun r89 S90 H locs e91 hP hS => ?_)
                      refine lv_if_ne (tgt := 180) hx hb d_Prc_makeStep_137 rfl (fun h92 => ?_) (fun h92 => ?_)
                      ·
                        refine lv_iconst (v := (1 : Int32)) hx hb d_Prc_makeStep_180 (by decide) ?_
                        refine lv_goto (tgt := 185) hx hb d_Prc_makeStep_181 rfl ?_
                        refine lv_istore_n hx hb d_Prc_makeStep_185 rfl hl (Nat.le_of_ble_eq_true rfl) rfl (fun ls hl => ?_)
                        have hl : lv_has ls 3 [(2, .int ((1 : Int32))), (1, .int (r61)), (0, .ref (a 3))] := hl
                        refine lv_aload_n hx hb d_Prc_makeStep_186 rfl (lv_at hl 2 rfl) ?_
                        refine lv_iload_n hx hb d_Prc_makeStep_187 rfl (lv_at hl 0 rfl) ?_
                        refine lv_if_ne (tgt := 195) hx hb d_Prc_makeStep_188 rfl (fun _ => ?_) (fun h => absurd h (by decide))
                        refine lv_iconst (v := (0 : Int32)) hx hb d_Prc_makeStep_195 (by decide) ?_
                        refine pt_Prc X hP hS 6 (by decide) (v := (0 : Int32)) (S1 := (pr S90 12 ((0 : Int32)))) q_202 rfl (by decide) rfl rfl d_Prc_makeStep_196 (fun H locs hP hS => ?_)
                        exact rt_s X hr hk hP hS (by rw [f_Prc_makeStep, if_pos h1, if_neg h2, if_neg h60, bn_eq e63, if_neg h64, bn_eq e67, if_pos h68, bn_eq e71, if_pos h72, bn_eq e75, if_pos h76, bn_eq e79, if_pos h80, bn_eq e83, if_pos h84, bn_eq e87, if_pos h88, bn_eq e91, if_neg h92]) d_Prc_makeStep_199
                      ·
                        refine lv_aload_n hx hb d_Prc_makeStep_140 rfl (lv_at hl 1 rfl) ?_
                        refine lv_iload_n hx hb d_Prc_makeStep_141 rfl (lv_at hl 0 rfl) ?_
                        refine kv_vs (rest := []) X hP hS (c_Prc_pull l D cB cI a bz ha S90 r61) (kw_Prc_pull hts q_474 ⟨Nat.le_of_ble_eq_true rfl, Nat.le_of_ble_eq_true rfl⟩) 3 rfl rfl rfl hl.1 rfl (lv_room (Nat.le_of_ble_eq_true rfl)) d_Prc_makeStep_142 (fun r93 S94 H locs e95 hP hS => ?_)
                        refine lv_if_ne (tgt := 180) hx hb d_Prc_makeStep_145 rfl (fun h96 => ?_) (fun h96 => ?_)
                        ·
                          refine lv_iconst (v := (1 : Int32)) hx hb d_Prc_makeStep_180 (by decide) ?_
                          refine lv_goto (tgt := 185) hx hb d_Prc_makeStep_181 rfl ?_
                          refine lv_istore_n hx hb d_Prc_makeStep_185 rfl hl (Nat.le_of_ble_eq_true rfl) rfl (fun ls hl => ?_)
                          have hl : lv_has ls 3 [(2, .int ((1 : Int32))), (1, .int (r61)), (0, .ref (a 3))] := hl
                          refine lv_aload_n hx hb d_Prc_makeStep_186 rfl (lv_at hl 2 rfl) ?_
                          refine lv_iload_n hx hb d_Prc_makeStep_187 rfl (lv_at hl 0 rfl) ?_
                          refine lv_if_ne (tgt := 195) hx hb d_Prc_makeStep_188 rfl (fun _ => ?_) (fun h => absurd h (by decide))
                          refine lv_iconst (v := (0 : Int32)) hx hb d_Prc_makeStep_195 (by decide) ?_
                          refine pt_Prc X hP hS 6 (by decide) (v := (0 : Int32)) (S1 := (pr S94 12 ((0 : Int32)))) q_202 rfl (by decide) rfl rfl d_Prc_makeStep_196 (fun H locs hP hS => ?_)
                          exact rt_s X hr hk hP hS (by rw [f_Prc_makeStep, if_pos h1, if_neg h2, if_neg h60, bn_eq e63, if_neg h64, bn_eq e67, if_pos h68, bn_eq e71, if_pos h72, bn_eq e75, if_pos h76, bn_eq e79, if_pos h80, bn_eq e83, if_pos h84, bn_eq e87, if_pos h88, bn_eq e91, if_pos h92, bn_eq e95, if_neg h96]) d_Prc_makeStep_199
                        ·
                          refine lv_aload_n hx hb d_Prc_makeStep_148 rfl (lv_at hl 1 rfl) ?_
                          refine lv_iload_n hx hb d_Prc_makeStep_149 rfl (lv_at hl 0 rfl) ?_
                          refine kv_vs (rest := []) X hP hS (c_Prc_branch l D cB cI a bz ha S94 r61 (rng_nb e63)) (kw_Prc_branch hts q_498 ⟨Nat.le_of_ble_eq_true rfl, Nat.le_of_ble_eq_true rfl⟩) 3 rfl rfl rfl hl.1 rfl (lv_room (Nat.le_of_ble_eq_true rfl)) d_Prc_makeStep_150 (fun r97 S98 H locs e99 hP hS => ?_)
                          refine lv_if_ne (tgt := 180) hx hb d_Prc_makeStep_153 rfl (fun h100 => ?_) (fun h100 => ?_)
                          ·
                            refine lv_iconst (v := (1 : Int32)) hx hb d_Prc_makeStep_180 (by decide) ?_
                            refine lv_goto (tgt := 185) hx hb d_Prc_makeStep_181 rfl ?_
                            refine lv_istore_n hx hb d_Prc_makeStep_185 rfl hl (Nat.le_of_ble_eq_true rfl) rfl (fun ls hl => ?_)
                            have hl : lv_has ls 3 [(2, .int ((1 : Int32))), (1, .int (r61)), (0, .ref (a 3))] := hl
                            refine lv_aload_n hx hb d_Prc_makeStep_186 rfl (lv_at hl 2 rfl) ?_
                            refine lv_iload_n hx hb d_Prc_makeStep_187 rfl (lv_at hl 0 rfl) ?_
                            refine lv_if_ne (tgt := 195) hx hb d_Prc_makeStep_188 rfl (fun _ => ?_) (fun h => absurd h (by decide))
                            refine lv_iconst (v := (0 : Int32)) hx hb d_Prc_makeStep_195 (by decide) ?_
                            refine pt_Prc X hP hS 6 (by decide) (v := (0 : Int32)) (S1 := (pr S98 12 ((0 : Int32)))) q_202 rfl (by decide) rfl rfl d_Prc_makeStep_196 (fun H locs hP hS => ?_)
                            exact rt_s X hr hk hP hS (by rw [f_Prc_makeStep, if_pos h1, if_neg h2, if_neg h60, bn_eq e63, if_neg h64, bn_eq e67, if_pos h68, bn_eq e71, if_pos h72, bn_eq e75, if_pos h76, bn_eq e79, if_pos h80, bn_eq e83, if_pos h84, bn_eq e87, if_pos h88, bn_eq e91, if_pos h92, bn_eq e95, if_pos h96, bn_eq e99, if_neg h100]) d_Prc_makeStep_199
                          ·
                            refine lv_aload_n hx hb d_Prc_makeStep_156 rfl (lv_at hl 1 rfl) ?_
                            refine lv_iload_n hx hb d_Prc_makeStep_157 rfl (lv_at hl 0 rfl) ?_
                            refine kv_vs (rest := []) X hP hS (c_Prc_jump l D cB cI a bz ha S98 r61) (kw_Prc_jump hts q_508 ⟨Nat.le_of_ble_eq_true rfl, Nat.le_of_ble_eq_true rfl⟩) 3 rfl rfl rfl hl.1 rfl (lv_room (Nat.le_of_ble_eq_true rfl)) d_Prc_makeStep_158 (fun r101 S102 H locs e103 hP hS => ?_)
                            refine lv_if_ne (tgt := 180) hx hb d_Prc_makeStep_161 rfl (fun h104 => ?_) (fun h104 => ?_)
                            ·
                              refine lv_iconst (v := (1 : Int32)) hx hb d_Prc_makeStep_180 (by decide) ?_
                              refine lv_goto (tgt := 185) hx hb d_Prc_makeStep_181 rfl ?_
                              refine lv_istore_n hx hb d_Prc_makeStep_185 rfl hl (Nat.le_of_ble_eq_true rfl) rfl (fun ls hl => ?_)
                              have hl : lv_has ls 3 [(2, .int ((1 : Int32))), (1, .int (r61)), (0, .ref (a 3))] := hl
                              refine lv_aload_n hx hb d_Prc_makeStep_186 rfl (lv_at hl 2 rfl) ?_
                              refine lv_iload_n hx hb d_Prc_makeStep_187 rfl (lv_at hl 0 rfl) ?_
                              refine lv_if_ne (tgt := 195) hx hb d_Prc_makeStep_188 rfl (fun _ => ?_) (fun h => absurd h (by decide))
                              refine lv_iconst (v := (0 : Int32)) hx hb d_Prc_makeStep_195 (by decide) ?_
                              refine pt_Prc X hP hS 6 (by decide) (v := (0 : Int32)) (S1 := (pr S102 12 ((0 : Int32)))) q_202 rfl (by decide) rfl rfl d_Prc_makeStep_196 (fun H locs hP hS => ?_)
                              exact rt_s X hr hk hP hS (by rw [f_Prc_makeStep, if_pos h1, if_neg h2, if_neg h60, bn_eq e63, if_neg h64, bn_eq e67, if_pos h68, bn_eq e71, if_pos h72, bn_eq e75, if_pos h76, bn_eq e79, if_pos h80, bn_eq e83, if_pos h84, bn_eq e87, if_pos h88, bn_eq e91, if_pos h92, bn_eq e95, if_pos h96, bn_eq e99, if_pos h100, bn_eq e103, if_neg h104]) d_Prc_makeStep_199
                            ·
                              refine lv_aload_n hx hb d_Prc_makeStep_164 rfl (lv_at hl 1 rfl) ?_
                              refine lv_iload_n hx hb d_Prc_makeStep_165 rfl (lv_at hl 0 rfl) ?_
                              refine kv_vs (rest := []) X hP hS (c_Prc_changeFlags l D cB cI a bz ha S102 r61) (kw_Prc_changeFlags hts q_518 ⟨Nat.le_of_ble_eq_true rfl, Nat.le_of_ble_eq_true rfl⟩) 3 rfl rfl rfl hl.1 rfl (lv_room (Nat.le_of_ble_eq_true rfl)) d_Prc_makeStep_166 (fun r105 S106 H locs e107 hP hS => ?_)
                              refine lv_if_ne (tgt := 180) hx hb d_Prc_makeStep_169 rfl (fun h108 => ?_) (fun h108 => ?_)
                              ·
                                refine lv_iconst (v := (1 : Int32)) hx hb d_Prc_makeStep_180 (by decide) ?_
                                refine lv_goto (tgt := 185) hx hb d_Prc_makeStep_181 rfl ?_
                                refine lv_istore_n hx hb d_Prc_makeStep_185 rfl hl (Nat.le_of_ble_eq_true rfl) rfl (fun ls hl => ?_)
                                have hl : lv_has ls 3 [(2, .int ((1 : Int32))), (1, .int (r61)), (0, .ref (a 3))] := hl
                                refine lv_aload_n hx hb d_Prc_makeStep_186 rfl (lv_at hl 2 rfl) ?_
                                refine lv_iload_n hx hb d_Prc_makeStep_187 rfl (lv_at hl 0 rfl) ?_
                                refine lv_if_ne (tgt := 195) hx hb d_Prc_makeStep_188 rfl (fun _ => ?_) (fun h => absurd h (by decide))
                                refine lv_iconst (v := (0 : Int32)) hx hb d_Prc_makeStep_195 (by decide) ?_
                                refine pt_Prc X hP hS 6 (by decide) (v := (0 : Int32)) (S1 := (pr S106 12 ((0 : Int32)))) q_202 rfl (by decide) rfl rfl d_Prc_makeStep_196 (fun H locs hP hS => ?_)
                                exact rt_s X hr hk hP hS (by rw [f_Prc_makeStep, if_pos h1, if_neg h2, if_neg h60, bn_eq e63, if_neg h64, bn_eq e67, if_pos h68, bn_eq e71, if_pos h72, bn_eq e75, if_pos h76, bn_eq e79, if_pos h80, bn_eq e83, if_pos h84, bn_eq e87, if_pos h88, bn_eq e91, if_pos h92, bn_eq e95, if_pos h96, bn_eq e99, if_pos h100, bn_eq e103, if_pos h104, bn_eq e107, if_neg h108]) d_Prc_makeStep_199
                              ·
                                refine lv_aload_n hx hb d_Prc_makeStep_172 rfl (lv_at hl 1 rfl) ?_
                                refine lv_iload_n hx hb d_Prc_makeStep_173 rfl (lv_at hl 0 rfl) ?_
                                refine kv_vs (rest := []) X hP hS (c_Prc_moveBlock l D cB cI a bz ha S106 r61) (kw_Prc_moveBlock hts q_522 ⟨Nat.le_of_ble_eq_true rfl, Nat.le_of_ble_eq_true rfl⟩) 3 rfl rfl rfl hl.1 rfl (lv_room (Nat.le_of_ble_eq_true rfl)) d_Prc_makeStep_174 (fun r109 S110 H locs e111 hP hS => ?_)
                                refine lv_if_eq (tgt := 184) hx hb d_Prc_makeStep_177 rfl (fun h112 => ?_) (fun h112 => ?_)
                                ·
                                  refine lv_iconst (v := (0 : Int32)) hx hb d_Prc_makeStep_184 (by decide) ?_
                                  refine lv_istore_n hx hb d_Prc_makeStep_185 rfl hl (Nat.le_of_ble_eq_true rfl) rfl (fun ls hl => ?_)
                                  have hl : lv_has ls 3 [(2, .int ((0 : Int32))), (1, .int (r61)), (0, .ref (a 3))] := hl
                                  refine lv_aload_n hx hb d_Prc_makeStep_186 rfl (lv_at hl 2 rfl) ?_
                                  refine lv_iload_n hx hb d_Prc_makeStep_187 rfl (lv_at hl 0 rfl) ?_
                                  refine lv_if_ne (tgt := 195) hx hb d_Prc_makeStep_188 rfl (fun h => absurd (by decide) h) (fun _ => ?_)
                                  refine lv_iconst (v := (1 : Int32)) hx hb d_Prc_makeStep_191 (by decide) ?_
                                  refine lv_goto (tgt := 196) hx hb d_Prc_makeStep_192 rfl ?_
                                  refine pt_Prc X hP hS 6 (by decide) (v := (1 : Int32)) (S1 := (pr S110 12 ((1 : Int32)))) q_202 rfl (by decide) rfl rfl d_Prc_makeStep_196 (fun H locs hP hS => ?_)
                                  exact rt_s X hr hk hP hS (by rw [f_Prc_makeStep, if_pos h1, if_neg h2, if_neg h60, bn_eq e63, if_neg h64, bn_eq e67, if_pos h68, bn_eq e71, if_pos h72, bn_eq e75, if_pos h76, bn_eq e79, if_pos h80, bn_eq e83, if_pos h84, bn_eq e87, if_pos h88, bn_eq e91, if_pos h92, bn_eq e95, if_pos h96, bn_eq e99, if_pos h100, bn_eq e103, if_pos h104, bn_eq e107, if_pos h108, bn_eq e111, if_pos h112]) d_Prc_makeStep_199
                                ·
                                  refine lv_iconst (v := (1 : Int32)) hx hb d_Prc_makeStep_180 (by decide) ?_
                                  refine lv_goto (tgt := 185) hx hb d_Prc_makeStep_181 rfl ?_
                                  refine lv_istore_n hx hb d_Prc_makeStep_185 rfl hl (Nat.le_of_ble_eq_true rfl) rfl (fun ls hl => ?_)
                                  have hl : lv_has ls 3 [(2, .int ((1 : Int32))), (1, .int (r61)), (0, .ref (a 3))] := hl
                                  refine lv_aload_n hx hb d_Prc_makeStep_186 rfl (lv_at hl 2 rfl) ?_
                                  refine lv_iload_n hx hb d_Prc_makeStep_187 rfl (lv_at hl 0 rfl) ?_
                                  refine lv_if_ne (tgt := 195) hx hb d_Prc_makeStep_188 rfl (fun _ => ?_) (fun h => absurd h (by decide))
                                  refine lv_iconst (v := (0 : Int32)) hx hb d_Prc_makeStep_195 (by decide) ?_
                                  refine pt_Prc X hP hS 6 (by decide) (v := (0 : Int32)) (S1 := (pr S110 12 ((0 : Int32)))) q_202 rfl (by decide) rfl rfl d_Prc_makeStep_196 (fun H locs hP hS => ?_)
                                  exact rt_s X hr hk hP hS (by rw [f_Prc_makeStep, if_pos h1, if_neg h2, if_neg h60, bn_eq e63, if_neg h64, bn_eq e67, if_pos h68, bn_eq e71, if_pos h72, bn_eq e75, if_pos h76, bn_eq e79, if_pos h80, bn_eq e83, if_pos h84, bn_eq e87, if_pos h88, bn_eq e91, if_pos h92, bn_eq e95, if_pos h96, bn_eq e99, if_pos h100, bn_eq e103, if_pos h104, bn_eq e107, if_pos h108, bn_eq e111, if_neg h112]) d_Prc_makeStep_199
        ·
          refine lv_aload_n hx hb d_Prc_makeStep_68 rfl (lv_at hl 1 rfl) ?_
          refine gt_Prc X hP 2 (by decide) (v := .ref (a 4)) q_196 rfl d_Prc_makeStep_69 ?_
          refine kv_vs (rest := []) X hP hS (c_Opd_nextByte l D cB cI a bz ha S62) (kw_Opd_nextByte hts q_330 ⟨Nat.le_of_ble_eq_true rfl, Nat.le_of_ble_eq_true rfl⟩) 4 rfl rfl rfl hl.1 rfl (lv_room (Nat.le_of_ble_eq_true rfl)) d_Prc_makeStep_72 (fun r113 S114 H locs e115 hP hS => ?_)
          refine lv_pop hx hb d_Prc_makeStep_75 rfl ?_
          refine lv_aload_n hx hb d_Prc_makeStep_76 rfl (lv_at hl 1 rfl) ?_
          refine lv_sipush (v := (486 : Int32)) hx hb d_Prc_makeStep_77 (by decide) ?_
          refine kv_s (rest := []) X hP hS (c_Prc_enterInterrupt l D cB cI a bz ha S114 (486 : Int32)) (kw_Prc_enterInterrupt hts q_279 ⟨Nat.le_of_ble_eq_true rfl, Nat.le_of_ble_eq_true rfl⟩) 3 rfl rfl rfl hl.1 rfl (lv_room (Nat.le_of_ble_eq_true rfl)) d_Prc_makeStep_80 (fun S116 H locs e117 hP hS => ?_)
          exact rt_s X hr hk hP hS (by rw [f_Prc_makeStep, if_pos h1, if_neg h2, if_neg h60, bn_eq e63, if_pos h64, bn_eq e115, bs_eq e117]) d_Prc_makeStep_83
      ·
        refine lv_aload_n hx hb d_Prc_makeStep_48 rfl (lv_at hl 0 rfl) ?_
        refine lv_sipush (v := (494 : Int32)) hx hb d_Prc_makeStep_49 (by decide) ?_
        refine kv_s (rest := []) X hP hS (c_Prc_enterInterrupt l D cB cI a bz ha (pr S 13 (((S.1 13) + (1 : Int32)))) (494 : Int32)) (kw_Prc_enterInterrupt hts q_279 ⟨Nat.le_of_ble_eq_true rfl, Nat.le_of_ble_eq_true rfl⟩) 3 rfl rfl rfl hl.1 rfl (lv_room (Nat.le_of_ble_eq_true rfl)) d_Prc_makeStep_52 (fun S118 H locs e119 hP hS => ?_)
        exact rt_s X hr hk hP hS (by rw [f_Prc_makeStep, if_pos h1, if_neg h2, if_pos h60, bs_eq e119]) d_Prc_makeStep_55
  ·
    refine lv_aload_n hx hb d_Prc_makeStep_17 rfl (lv_at hl 0 rfl) ?_
    refine lv_iconst (v := (0 : Int32)) hx hb d_Prc_makeStep_18 (by decide) ?_
    refine pt_Prc X hP hS 4 (by decide) (v := (0 : Int32)) (S1 := (pr (pr S 13 (((S.1 13) + (1 : Int32)))) 10 ((0 : Int32)))) q_198 rfl (by decide) rfl rfl d_Prc_makeStep_19 (fun H locs hP hS => ?_)
    refine lv_aload_n hx hb d_Prc_makeStep_22 rfl (lv_at hl 0 rfl) ?_
    refine lv_sipush (v := (490 : Int32)) hx hb d_Prc_makeStep_23 (by decide) ?_
    refine kv_s (rest := []) X hP hS (c_Prc_enterInterrupt l D cB cI a bz ha (pr (pr S 13 (((S.1 13) + (1 : Int32)))) 10 ((0 : Int32))) (490 : Int32)) (kw_Prc_enterInterrupt hts q_279 ⟨Nat.le_of_ble_eq_true rfl, Nat.le_of_ble_eq_true rfl⟩) 3 rfl rfl rfl hl.1 rfl (lv_room (Nat.le_of_ble_eq_true rfl)) d_Prc_makeStep_26 (fun S120 H locs e121 hP hS => ?_)
    exact rt_s X hr hk hP hS (by rw [f_Prc_makeStep, if_neg h1, bs_eq e121]) d_Prc_makeStep_29
