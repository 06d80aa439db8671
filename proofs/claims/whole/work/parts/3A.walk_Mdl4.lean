set_option maxHeartbeats 4000000 in
set_option maxRecDepth 100000 in
theorem c_Mdl_step (l : Launch) (D : va_G) (cB cI : ClassId) (a : Nat → Nat) (bz : Nat) (ha : ap a 3) (S : Sc) : MV l y_Mdl_step b_Mdl_step 5 rm_Mdl_step [.ref (a 0)] D cB cI (wdT cI a) (ow a 3) bz S (f_Mdl_step S) := by
  refine met_in R_Mdl (by decide) rfl (Nat.le_of_ble_eq_true rfl) (wdT_D ha cI) ?_
  intro p e s m below meth c ls X hr hk hl hP hS
  have hx := X.1.1
  have hb := X.1.2.1
  have hown := X.1.2.2.2.1
  have hts := X.1.2.2.2.2
  have hl : lv_has ls 5 [(0, .ref (a 0))] := hl
  refine lv_aload_n hx hb d_Mdl_step_0 rfl (lv_at hl 0 rfl) ?_
  refine lv_dup hx hb d_Mdl_step_1 rfl ?_
  refine gt_Mdl X hP 13 (by decide) (v := .int (S.1 12)) q_576 rfl d_Mdl_step_2 ?_
  refine lv_iconst (v := (1 : Int32)) hx hb d_Mdl_step_5 (by decide) ?_
  refine lv_iadd hx hb d_Mdl_step_6 ?_
  refine pt_Mdl X hP hS 13 (by decide) (v := ((S.1 12) + (1 : Int32))) (S1 := (pr S 12 (((S.1 12) + (1 : Int32))))) q_576 rfl rfl rfl rfl d_Mdl_step_7 (fun H locs hP hS => ?_)
  refine lv_aload_n hx hb d_Mdl_step_10 rfl (lv_at hl 0 rfl) ?_
  refine gt_Mdl X hP 11 (by decide) (v := .int (S.1 10)) q_574 rfl d_Mdl_step_11 ?_
  refine lv_if_eq (tgt := 30) hx hb d_Mdl_step_14 rfl (fun h1 => ?_) (fun h1 => ?_)
  ·
    refine lv_aload_n hx hb d_Mdl_step_30 rfl (lv_at hl 0 rfl) ?_
    refine gt_Mdl X hP 12 (by decide) (v := .int (S.1 11)) q_575 rfl d_Mdl_step_31 ?_
    refine lv_if_eq (tgt := 53) hx hb d_Mdl_step_34 rfl (fun h2 => ?_) (fun h2 => ?_)
    ·
      refine lv_aload_n hx hb d_Mdl_step_53 rfl (lv_at hl 0 rfl) ?_
      refine kv_vs (rest := []) X hP hS (c_Mdl_next l D cB cI a bz ha (pr S 12 (((S.1 12) + (1 : Int32))))) (kw_Mdl_next hts q_700 ⟨Nat.le_of_ble_eq_true rfl, Nat.le_of_ble_eq_true rfl⟩) 0 rfl rfl rfl hl.1 rfl (lv_room (Nat.le_of_ble_eq_true rfl)) d_Mdl_step_54 (fun r3 S4 H locs e5 hP hS => ?_)
      refine lv_istore_n hx hb d_Mdl_step_57 rfl hl (Nat.le_of_ble_eq_true rfl) rfl (fun ls hl => ?_)
      have hl : lv_has ls 5 [(1, .int (r3)), (0, .ref (a 0))] := hl
      refine lv_iload_n hx hb d_Mdl_step_58 rfl (lv_at hl 0 rfl) ?_
      refine lv_bipush (v := (31 : Int32)) hx hb d_Mdl_step_59 (by decide) ?_
      refine lv_iand hx hb d_Mdl_step_61 ?_
      refine lv_istore_n hx hb d_Mdl_step_62 rfl hl (Nat.le_of_ble_eq_true rfl) rfl (fun ls hl => ?_)
      have hl : lv_has ls 5 [(2, .int ((r3 &&& (31 : Int32)))), (1, .int (r3)), (0, .ref (a 0))] := hl
      refine lv_iload_n hx hb d_Mdl_step_63 rfl (lv_at hl 0 rfl) ?_
      refine lv_iconst (v := (1 : Int32)) hx hb d_Mdl_step_64 (by decide) ?_
      refine lv_iand hx hb d_Mdl_step_65 ?_
      refine lv_iconst (v := (1 : Int32)) hx hb d_Mdl_step_66 (by decide) ?_
      refine lv_icmp_ne (tgt := 82) hx hb d_Mdl_step_67 rfl (fun h6 => ?_) (fun h6 => ?_)
      ·
        refine lv_iload_n hx hb d_Mdl_step_82 rfl (lv_at hl 0 rfl) ?_
        refine lv_bipush (v := (18 : Int32)) hx hb d_Mdl_step_83 (by decide) ?_
        refine lv_icmp_ne (tgt := 92) hx hb d_Mdl_step_85 rfl (fun h7 => ?_) (fun h7 => ?_)
        ·
          refine lv_iconst (v := (0 : Int32)) hx hb d_Mdl_step_92 (by decide) ?_
          refine lv_istore_n hx hb d_Mdl_step_93 rfl hl (Nat.le_of_ble_eq_true rfl) rfl (fun ls hl => ?_)
          have hl : lv_has ls 5 [(3, .int ((0 : Int32))), (2, .int ((r3 &&& (31 : Int32)))), (1, .int (r3)), (0, .ref (a 0))] := hl
          refine lv_iload_n hx hb d_Mdl_step_94 rfl (lv_at hl 0 rfl) ?_
          refine lv_if_eq (tgt := 106) hx hb d_Mdl_step_95 rfl (fun _ => ?_) (fun h => absurd (by decide) h)
          refine lv_aload_n hx hb d_Mdl_step_106 rfl (lv_at hl 3 rfl) ?_
          refine lv_iload_n hx hb d_Mdl_step_107 rfl (lv_at hl 2 rfl) ?_
          refine kv_vs (rest := []) X hP hS (c_Mdl_change l D cB cI a bz ha S4 r3) (kw_Mdl_change hts q_762 ⟨Nat.le_of_ble_eq_true rfl, Nat.le_of_ble_eq_true rfl⟩) 0 rfl rfl rfl hl.1 rfl (lv_room (Nat.le_of_ble_eq_true rfl)) d_Mdl_step_108 (fun r8 S9 H locs e10 hP hS => ?_)
          refine lv_if_ne (tgt := 154) hx hb d_Mdl_step_111 rfl (fun h11 => ?_) (fun h11 => ?_)
          ·
            refine lv_iconst (v := (1 : Int32)) hx hb d_Mdl_step_154 (by decide) ?_
            refine lv_goto (tgt := 159) hx hb d_Mdl_step_155 rfl ?_
            refine lv_istore hx hb d_Mdl_step_159 hl (Nat.le_of_ble_eq_true rfl) rfl (fun ls hl => ?_)
            have hl : lv_has ls 5 [(4, .int ((1 : Int32))), (3, .int ((0 : Int32))), (2, .int ((r3 &&& (31 : Int32)))), (1, .int (r3)), (0, .ref (a 0))] := hl
            refine lv_aload_n hx hb d_Mdl_step_161 rfl (lv_at hl 4 rfl) ?_
            refine lv_iload hx hb d_Mdl_step_162 (lv_at hl 0 rfl) ?_
            refine lv_if_ne (tgt := 171) hx hb d_Mdl_step_164 rfl (fun _ => ?_) (fun h => absurd h (by decide))
            refine lv_iconst (v := (0 : Int32)) hx hb d_Mdl_step_171 (by decide) ?_
            refine pt_Mdl X hP hS 10 (by decide) (v := (0 : Int32)) (S1 := (pr S9 9 ((0 : Int32)))) q_573 rfl (by decide) rfl rfl d_Mdl_step_172 (fun H locs hP hS => ?_)
            exact rt_s X hr hk hP hS (by rw [f_Mdl_step, if_pos h1, if_pos h2, bn_eq e5, if_neg h6, if_neg h7, bn_eq e10, if_neg h11]) d_Mdl_step_175
          ·
            refine lv_aload_n hx hb d_Mdl_step_114 rfl (lv_at hl 3 rfl) ?_
            refine lv_iload_n hx hb d_Mdl_step_115 rfl (lv_at hl 2 rfl) ?_
            refine kv_vs (rest := []) X hP hS (c_Mdl_index l D cB cI a bz ha S9 r3) (kw_Mdl_index hts q_774 ⟨Nat.le_of_ble_eq_true rfl, Nat.le_of_ble_eq_true rfl⟩) 0 rfl rfl rfl hl.1 rfl (lv_room (Nat.le_of_ble_eq_true rfl)) d_Mdl_step_116 (fun r12 S13 H locs e14 hP hS => ?_)
            refine lv_if_ne (tgt := 154) hx hb d_Mdl_step_119 rfl (fun h15 => ?_) (fun h15 => ?_)
            ·
              refine lv_iconst (v := (1 : Int32)) hx hb d_Mdl_step_154 (by decide) ?_
              refine lv_goto (tgt := 159) hx hb d_Mdl_step_155 rfl ?_
              refine lv_istore hx hb d_Mdl_step_159 hl (Nat.le_of_ble_eq_true rfl) rfl (fun ls hl => ?_)
              have hl : lv_has ls 5 [(4, .int ((1 : Int32))), (3, .int ((0 : Int32))), (2, .int ((r3 &&& (31 : Int32)))), (1, .int (r3)), (0, .ref (a 0))] := hl
              refine lv_aload_n hx hb d_Mdl_step_161 rfl (lv_at hl 4 rfl) ?_
              refine lv_iload hx hb d_Mdl_step_162 (lv_at hl 0 rfl) ?_
              refine lv_if_ne (tgt := 171) hx hb d_Mdl_step_164 rfl (fun _ => ?_) (fun h => absurd h (by decide))
              refine lv_iconst (v := (0 : Int32)) hx hb d_Mdl_step_171 (by decide) ?_
              refine pt_Mdl X hP hS 10 (by decide) (v := (0 : Int32)) (S1 := (pr S13 9 ((0 : Int32)))) q_573 rfl (by decide) rfl rfl d_Mdl_step_172 (fun H locs hP hS => ?_)
              exact rt_s X hr hk hP hS (by rw [f_Mdl_step, if_pos h1, if_pos h2, bn_eq e5, if_neg h6, if_neg h7, bn_eq e10, if_pos h11, bn_eq e14, if_neg h15]) d_Mdl_step_175
            ·
              refine lv_aload_n hx hb d_Mdl_step_122 rfl (lv_at hl 3 rfl) ?_
              refine lv_iload_n hx hb d_Mdl_step_123 rfl (lv_at hl 2 rfl) ?_
              refine kv_vs (rest := []) X hP hS (c_Mdl_transfer l D cB cI a bz ha S13 r3) (kw_Mdl_transfer hts q_790 ⟨Nat.le_of_ble_eq_true rfl, Nat.le_of_ble_eq_true rfl⟩) 0 rfl rfl rfl hl.1 rfl (lv_room (Nat.le_of_ble_eq_true rfl)) d_Mdl_step_124 (fun r16 S17 H locs e18 hP hS => ?_)
              refine lv_if_ne (tgt := 154) hx hb d_Mdl_step_127 rfl (fun h19 => ?_) (fun h19 => ?_)
              ·
                refine lv_iconst (v := (1 : Int32)) hx hb d_Mdl_step_154 (by decide) ?_
                refine lv_goto (tgt := 159) hx hb d_Mdl_step_155 rfl ?_
                refine lv_istore hx hb d_Mdl_step_159 hl (Nat.le_of_ble_eq_true rfl) rfl (fun ls hl => ?_)
                have hl : lv_has ls 5 [(4, .int ((1 : Int32))), (3, .int ((0 : Int32))), (2, .int ((r3 &&& (31 : Int32)))), (1, .int (r3)), (0, .ref (a 0))] := hl
                refine lv_aload_n hx hb d_Mdl_step_161 rfl (lv_at hl 4 rfl) ?_
                refine lv_iload hx hb d_Mdl_step_162 (lv_at hl 0 rfl) ?_
                refine lv_if_ne (tgt := 171) hx hb d_Mdl_step_164 rfl (fun _ => ?_) (fun h => absurd h (by decide))
                refine lv_iconst (v := (0 : Int32)) hx hb d_Mdl_step_171 (by decide) ?_
                refine pt_Mdl X hP hS 10 (by decide) (v := (0 : Int32)) (S1 := (pr S17 9 ((0 : Int32)))) q_573 rfl (by decide) rfl rfl d_Mdl_step_172 (fun H locs hP hS => ?_)
                exact rt_s X hr hk hP hS (by rw [f_Mdl_step, if_pos h1, if_pos h2, bn_eq e5, if_neg h6, if_neg h7, bn_eq e10, if_pos h11, bn_eq e14, if_pos h15, bn_eq e18, if_neg h19]) d_Mdl_step_175
              ·
                refine lv_aload_n hx hb d_Mdl_step_130 rfl (lv_at hl 3 rfl) ?_
                refine lv_iload_n hx hb d_Mdl_step_131 rfl (lv_at hl 2 rfl) ?_
                refine kv_vs (rest := []) X hP hS (c_Mdl_stack l D cB cI a bz ha S17 r3) (kw_Mdl_stack hts q_794 ⟨Nat.le_of_ble_eq_true rfl, Nat.le_of_ble_eq_true rfl⟩) 0 rfl rfl rfl hl.1 rfl (lv_room (Nat.le_of_ble_eq_true rfl)) d_Mdl_step_132 (fun r20 S21 H locs e22 hP hS => ?_)
                refine lv_if_ne (tgt := 154) hx hb d_Mdl_step_135 rfl (fun h23 => ?_) (fun h23 => ?_)
                ·
                  refine lv_iconst (v := (1 : Int32)) hx hb d_Mdl_step_154 (by decide) ?_
                  refine lv_goto (tgt := 159) hx hb d_Mdl_step_155 rfl ?_
                  refine lv_istore hx hb d_Mdl_step_159 hl (Nat.le_of_ble_eq_true rfl) rfl (fun ls hl => ?_)
                  have hl : lv_has ls 5 [(4, .int ((1 : Int32))), (3, .int ((0 : Int32))), (2, .int ((r3 &&& (31 : Int32)))), (1, .int (r3)), (0, .ref (a 0))] := hl
                  refine lv_aload_n hx hb d_Mdl_step_161 rfl (lv_at hl 4 rfl) ?_
                  refine lv_iload hx hb d_Mdl_step_162 (lv_at hl 0 rfl) ?_
                  refine lv_if_ne (tgt := 171) hx hb d_Mdl_step_164 rfl (fun _ => ?_) (fun h => absurd h (by decide))
                  refine lv_iconst (v := (0 : Int32)) hx hb d_Mdl_step_171 (by decide) ?_
                  refine pt_Mdl X hP hS 10 (by decide) (v := (0 : Int32)) (S1 := (pr S21 9 ((0 : Int32)))) q_573 rfl (by decide) rfl rfl d_Mdl_step_172 (fun H locs hP hS => ?_)
                  exact rt_s X hr hk hP hS (by rw [f_Mdl_step, if_pos h1, if_pos h2, bn_eq e5, if_neg h6, if_neg h7, bn_eq e10, if_pos h11, bn_eq e14, if_pos h15, bn_eq e18, if_pos h19, bn_eq e22, if_neg h23]) d_Mdl_step_175
                ·
                  refine lv_aload_n hx hb d_Mdl_step_138 rfl (lv_at hl 3 rfl) ?_
                  refine lv_iload_n hx hb d_Mdl_step_139 rfl (lv_at hl 2 rfl) ?_
                  refine kv_vs (rest := []) X hP hS (c_Mdl_jump l D cB cI a bz ha S21 r3) (kw_Mdl_jump hts q_814 ⟨Nat.le_of_ble_eq_true rfl, Nat.le_of_ble_eq_true rfl⟩) 0 rfl rfl rfl hl.1 rfl (lv_room (Nat.le_of_ble_eq_true rfl)) d_Mdl_step_140 (fun r24 S25 H locs e26 hP hS => ?_)
                  refine lv_if_ne (tgt := 154) hx hb d_Mdl_step_143 rfl (fun h27 => ?_) (fun h27 => ?_)
                  ·
                    refine lv_iconst (v := (1 : Int32)) hx hb d_Mdl_step_154 (by decide) ?_
                    refine lv_goto (tgt := 159) hx hb d_Mdl_step_155 rfl ?_
                    refine lv_istore hx hb d_Mdl_step_159 hl (Nat.le_of_ble_eq_true rfl) rfl (fun ls hl => ?_)
                    have hl : lv_has ls 5 [(4, .int ((1 : Int32))), (3, .int ((0 : Int32))), (2, .int ((r3 &&& (31 : Int32)))), (1, .int (r3)), (0, .ref (a 0))] := hl
                    refine lv_aload_n hx hb d_Mdl_step_161 rfl (lv_at hl 4 rfl) ?_
                    refine lv_iload hx hb d_Mdl_step_162 (lv_at hl 0 rfl) ?_
                    refine lv_if_ne (tgt := 171) hx hb d_Mdl_step_164 rfl (fun _ => ?_) (fun h => absurd h (by decide))
                    refine lv_iconst (v := (0 : Int32)) hx hb d_Mdl_step_171 (by decide) ?_
                    refine pt_Mdl X hP hS 10 (by decide) (v := (0 : Int32)) (S1 := (pr S25 9 ((0 : Int32)))) q_573 rfl (by decide) rfl rfl d_Mdl_step_172 (fun H locs hP hS => ?_)
                    exact rt_s X hr hk hP hS (by rw [f_Mdl_step, if_pos h1, if_pos h2, bn_eq e5, if_neg h6, if_neg h7, bn_eq e10, if_pos h11, bn_eq e14, if_pos h15, bn_eq e18, if_pos h19, bn_eq e22, if_pos h23, bn_eq e26, if_neg h27]) d_Mdl_step_175
                  ·
                    refine lv_aload_n hx hb d_Mdl_step_146 rfl (lv_at hl 3 rfl) ?_
                    refine lv_iload_n hx hb d_Mdl_step_147 rfl (lv_at hl 2 rfl) ?_
                    refine kv_vs (rest := []) X hP hS (c_Mdl_other l D cB cI a bz ha S25 r3) (kw_Mdl_other hts q_830 ⟨Nat.le_of_ble_eq_true rfl, Nat.le_of_ble_eq_true rfl⟩) 0 rfl rfl rfl hl.1 rfl (lv_room (Nat.le_of_ble_eq_true rfl)) d_Mdl_step_148 (fun r28 S29 H locs e30 hP hS => ?_)
                    refine lv_if_eq (tgt := 158) hx hb d_Mdl_step_151 rfl (fun h31 => ?_) (fun h31 => ?_)
                    ·
                      refine lv_iconst (v := (0 : Int32)) hx hb d_Mdl_step_158 (by decide) ?_
                      refine lv_istore hx hb d_Mdl_step_159 hl (Nat.le_of_ble_eq_true rfl) rfl (fun ls hl => ?_)
                      have hl : lv_has ls 5 [(4, .int ((0 : Int32))), (3, .int ((0 : Int32))), (2, .int ((r3 &&& (31 : Int32)))), (1, .int (r3)), (0, .ref (a 0))] := hl
                      refine lv_aload_n hx hb d_Mdl_step_161 rfl (lv_at hl 4 rfl) ?_
                      refine lv_iload hx hb d_Mdl_step_162 (lv_at hl 0 rfl) ?_
                      refine lv_if_ne (tgt := 171) hx hb d_Mdl_step_164 rfl (fun h => absurd (by decide) h) (fun _ => ?_)
                      refine lv_iconst (v := (1 : Int32)) hx hb d_Mdl_step_167 (by decide) ?_
                      refine lv_goto (tgt := 172) hx hb d_Mdl_step_168 rfl ?_
                      refine pt_Mdl X hP hS 10 (by decide) (v := (1 : Int32)) (S1 := (pr S29 9 ((1 : Int32)))) q_573 rfl (by decide) rfl rfl d_Mdl_step_172 (fun H locs hP hS => ?_)
                      exact rt_s X hr hk hP hS (by rw [f_Mdl_step, if_pos h1, if_pos h2, bn_eq e5, if_neg h6, if_neg h7, bn_eq e10, if_pos h11, bn_eq e14, if_pos h15, bn_eq e18, if_pos h19, bn_eq e22, if_pos h23, bn_eq e26, if_pos h27, bn_eq e30, if_pos h31]) d_Mdl_step_175
                    ·
                      refine lv_iconst (v := (1 : Int32)) hx hb d_Mdl_step_154 (by decide) ?_
                      refine lv_goto (tgt := 159) hx hb d_Mdl_step_155 rfl ?_
                      refine lv_istore hx hb d_Mdl_step_159 hl (Nat.le_of_ble_eq_true rfl) rfl (fun ls hl => ?_)
                      have hl : lv_has ls 5 [(4, .int ((1 : Int32))), (3, .int ((0 : Int32))), (2, .int ((r3 &&& (31 : Int32)))), (1, .int (r3)), (0, .ref (a 0))] := hl
                      refine lv_aload_n hx hb d_Mdl_step_161 rfl (lv_at hl 4 rfl) ?_
                      refine lv_iload hx hb d_Mdl_step_162 (lv_at hl 0 rfl) ?_
                      refine lv_if_ne (tgt := 171) hx hb d_Mdl_step_164 rfl (fun _ => ?_) (fun h => absurd h (by decide))
                      refine lv_iconst (v := (0 : Int32)) hx hb d_Mdl_step_171 (by decide) ?_
                      refine pt_Mdl X hP hS 10 (by decide) (v := (0 : Int32)) (S1 := (pr S29 9 ((0 : Int32)))) q_573 rfl (by decide) rfl rfl d_Mdl_step_172 (fun H locs hP hS => ?_)
                      exact rt_s X hr hk hP hS (by rw [f_Mdl_step, if_pos h1, if_pos h2, bn_eq e5, if_neg h6, if_neg h7, bn_eq e10, if_pos h11, bn_eq e14, if_pos h15, bn_eq e18, if_pos h19, bn_eq e22, if_pos h23, bn_eq e26, if_pos h27, bn_eq e30, if_neg h31]) d_Mdl_step_175
        ·
          refine lv_iconst (v := (1 : Int32)) hx hb d_Mdl_step_88 (by decide) ?_
          refine lv_goto (tgt := 93) hx hb d_Mdl_step_89 rfl ?_
          refine lv_istore_n hx hb d_Mdl_step_93 rfl hl (Nat.le_of_ble_eq_true rfl) rfl (fun ls hl => ?_)
          have hl : lv_has ls 5 [(3, .int ((1 : Int32))), (2, .int ((r3 &&& (31 : Int32)))), (1, .int (r3)), (0, .ref (a 0))] := hl
          refine lv_iload_n hx hb d_Mdl_step_94 rfl (lv_at hl 0 rfl) ?_
          refine lv_if_eq (tgt := 106) hx hb d_Mdl_step_95 rfl (fun h => absurd h (by decide)) (fun _ => ?_)
          refine lv_aload_n hx hb d_Mdl_step_98 rfl (lv_at hl 3 rfl) ?_
          refine lv_iload_n hx hb d_Mdl_step_99 rfl (lv_at hl 2 rfl) ?_
          refine kv_vs (rest := []) X hP hS (c_Mdl_arithmetic l D cB cI a bz ha S4 r3) (kw_Mdl_arithmetic hts q_704 ⟨Nat.le_of_ble_eq_true rfl, Nat.le_of_ble_eq_true rfl⟩) 0 rfl rfl rfl hl.1 rfl (lv_room (Nat.le_of_ble_eq_true rfl)) d_Mdl_step_100 (fun r32 S33 H locs e34 hP hS => ?_)
          refine lv_goto (tgt := 159) hx hb d_Mdl_step_103 rfl ?_
          refine lv_istore hx hb d_Mdl_step_159 hl (Nat.le_of_ble_eq_true rfl) rfl (fun ls hl => ?_)
          have hl : lv_has ls 5 [(4, .int (r32)), (3, .int ((1 : Int32))), (2, .int ((r3 &&& (31 : Int32)))), (1, .int (r3)), (0, .ref (a 0))] := hl
          refine lv_aload_n hx hb d_Mdl_step_161 rfl (lv_at hl 4 rfl) ?_
          refine lv_iload hx hb d_Mdl_step_162 (lv_at hl 0 rfl) ?_
          refine lv_if_ne (tgt := 171) hx hb d_Mdl_step_164 rfl (fun h35 => ?_) (fun h35 => ?_)
          ·
            refine lv_iconst (v := (0 : Int32)) hx hb d_Mdl_step_171 (by decide) ?_
            refine pt_Mdl X hP hS 10 (by decide) (v := (0 : Int32)) (S1 := (pr S33 9 ((0 : Int32)))) q_573 rfl (by decide) rfl rfl d_Mdl_step_172 (fun H locs hP hS => ?_)
            exact rt_s X hr hk hP hS (by rw [f_Mdl_step, if_pos h1, if_pos h2, bn_eq e5, if_neg h6, if_pos h7, bn_eq e34, if_neg h35]) d_Mdl_step_175
          ·
            refine lv_iconst (v := (1 : Int32)) hx hb d_Mdl_step_167 (by decide) ?_
            refine lv_goto (tgt := 172) hx hb d_Mdl_step_168 rfl ?_
            refine pt_Mdl X hP hS 10 (by decide) (v := (1 : Int32)) (S1 := (pr S33 9 ((1 : Int32)))) q_573 rfl (by decide) rfl rfl d_Mdl_step_172 (fun H locs hP hS => ?_)
            exact rt_s X hr hk hP hS (by rw [f_Mdl_step, if_pos h1, if_pos h2, bn_eq e5, if_neg h6, if_pos h7, bn_eq e34, if_pos h35]) d_Mdl_step_175
      ·
        refine lv_iload_n hx hb d_Mdl_step_70 rfl (lv_at hl 0 rfl) ?_
        refine lv_bipush (v := (11 : Int32)) hx hb d_Mdl_step_71 (by decide) ?_
        refine lv_icmp_eq (tgt := 82) hx hb d_Mdl_step_73 rfl (fun h36 => ?_) (fun h36 => ?_)
        ·
          refine lv_iload_n hx hb d_Mdl_step_82 rfl (lv_at hl 0 rfl) ?_
          refine lv_bipush (v := (18 : Int32)) hx hb d_Mdl_step_83 (by decide) ?_
          refine lv_icmp_ne (tgt := 92) hx hb d_Mdl_step_85 rfl (fun _ => ?_) (fun h => absurd h (by rw [h36]; decide))
          refine lv_iconst (v := (0 : Int32)) hx hb d_Mdl_step_92 (by decide) ?_
          refine lv_istore_n hx hb d_Mdl_step_93 rfl hl (Nat.le_of_ble_eq_true rfl) rfl (fun ls hl => ?_)
          have hl : lv_has ls 5 [(3, .int ((0 : Int32))), (2, .int ((r3 &&& (31 : Int32)))), (1, .int (r3)), (0, .ref (a 0))] := hl
          refine lv_iload_n hx hb d_Mdl_step_94 rfl (lv_at hl 0 rfl) ?_
          refine lv_if_eq (tgt := 106) hx hb d_Mdl_step_95 rfl (fun _ => ?_) (fun h => absurd (by decide) h)
          refine lv_aload_n hx hb d_Mdl_step_106 rfl (lv_at hl 3 rfl) ?_
          refine lv_iload_n hx hb d_Mdl_step_107 rfl (lv_at hl 2 rfl) ?_
          refine kv_vs (rest := []) X hP hS (c_Mdl_change l D cB cI a bz ha S4 r3) (kw_Mdl_change hts q_762 ⟨Nat.le_of_ble_eq_true rfl, Nat.le_of_ble_eq_true rfl⟩) 0 rfl rfl rfl hl.1 rfl (lv_room (Nat.le_of_ble_eq_true rfl)) d_Mdl_step_108 (fun r37 S38 H locs e39 hP hS => ?_)
          refine lv_if_ne (tgt := 154) hx hb d_Mdl_step_111 rfl (fun h40 => ?_) (fun h40 => ?_)
          ·
            refine lv_iconst (v := (1 : Int32)) hx hb d_Mdl_step_154 (by decide) ?_
            refine lv_goto (tgt := 159) hx hb d_Mdl_step_155 rfl ?_
            refine lv_istore hx hb d_Mdl_step_159 hl (Nat.le_of_ble_eq_true rfl) rfl (fun ls hl => ?_)
            have hl : lv_has ls 5 [(4, .int ((1 : Int32))), (3, .int ((0 : Int32))), (2, .int ((r3 &&& (31 : Int32)))), (1, .int (r3)), (0, .ref (a 0))] := hl
            refine lv_aload_n hx hb d_Mdl_step_161 rfl (lv_at hl 4 rfl) ?_
            refine lv_iload hx hb d_Mdl_step_162 (lv_at hl 0 rfl) ?_
            refine lv_if_ne (tgt := 171) hx hb d_Mdl_step_164 rfl (fun _ => ?_) (fun h => absurd h (by decide))
            refine lv_iconst (v := (0 : Int32)) hx hb d_Mdl_step_171 (by decide) ?_
            refine pt_Mdl X hP hS 10 (by decide) (v := (0 : Int32)) (S1 := (pr S38 9 ((0 : Int32)))) q_573 rfl (by decide) rfl rfl d_Mdl_step_172 (fun H locs hP hS => ?_)
            exact rt_s X hr hk hP hS (by rw [f_Mdl_step, if_pos h1, if_pos h2, bn_eq e5, if_pos h6, if_pos h36, bn_eq e39, if_neg h40]) d_Mdl_step_175
          ·
            refine lv_aload_n hx hb d_Mdl_step_114 rfl (lv_at hl 3 rfl) ?_
            refine lv_iload_n hx hb d_Mdl_step_115 rfl (lv_at hl 2 rfl) ?_
            refine kv_vs (rest := []) X hP hS (c_Mdl_index l D cB cI a bz ha S38 r3) (kw_Mdl_index hts q_774 ⟨Nat.le_of_ble_eq_true rfl, Nat.le_of_ble_eq_true rfl⟩) 0 rfl rfl rfl hl.1 rfl (lv_room (Nat.le_of_ble_eq_true rfl)) d_Mdl_step_116 (fun r41 S42 H locs e43 hP hS => ?_)
            refine lv_if_ne (tgt := 154) hx hb d_Mdl_step_119 rfl (fun h44 => ?_) (fun h44 => ?_)
            ·
              refine lv_iconst (v := (1 : Int32)) hx hb d_Mdl_step_154 (by decide) ?_
              refine lv_goto (tgt := 159) hx hb d_Mdl_step_155 rfl ?_
              refine lv_istore hx hb d_Mdl_step_159 hl (Nat.le_of_ble_eq_true rfl) rfl (fun ls hl => ?_)
              have hl : lv_has ls 5 [(4, .int ((1 : Int32))), (3, .int ((0 : Int32))), (2, .int ((r3 &&& (31 : Int32)))), (1, .int (r3)), (0, .ref (a 0))] := hl
              refine lv_aload_n hx hb d_Mdl_step_161 rfl (lv_at hl 4 rfl) ?_
              refine lv_iload hx hb d_Mdl_step_162 (lv_at hl 0 rfl) ?_
              refine lv_if_ne (tgt := 171) hx hb d_Mdl_step_164 rfl (fun _ => ?_) (fun h => absurd h (by decide))
              refine lv_iconst (v := (0 : Int32)) hx hb d_Mdl_step_171 (by decide) ?_
              refine pt_Mdl X hP hS 10 (by decide) (v := (0 : Int32)) (S1 := (pr S42 9 ((0 : Int32)))) q_573 rfl (by decide) rfl rfl d_Mdl_step_172 (fun H locs hP hS => ?_)
              exact rt_s X hr hk hP hS (by rw [f_Mdl_step, if_pos h1, if_pos h2, bn_eq e5, if_pos h6, if_pos h36, bn_eq e39, if_pos h40, bn_eq e43, if_neg h44]) d_Mdl_step_175
            ·
              refine lv_aload_n hx hb d_Mdl_step_122 rfl (lv_at hl 3 rfl) ?_
              refine lv_iload_n hx hb d_Mdl_step_123 rfl (lv_at hl 2 rfl) ?_
              refine kv_vs (rest := []) X hP hS (c_Mdl_transfer l D cB cI a bz ha S42 r3) (kw_Mdl_transfer hts q_790 ⟨Nat.le_of_ble_eq_true rfl, Nat.le_of_ble_eq_true rfl⟩) 0 rfl rfl rfl hl.1 rfl (lv_room (Nat.le_of_ble_eq_true rfl)) d_Mdl_step_124 (fun r45 S46 H locs e47 hP hS => ?_)
              refine lv_if_ne (tgt := 154) hx hb d_Mdl_step_127 rfl (fun h48 => ?_) (fun h48 => ?_)
              ·
                refine lv_iconst (v := (1 : Int32)) hx hb d_Mdl_step_154 (by decide) ?_
                refine lv_goto (tgt := 159) hx hb d_Mdl_step_155 rfl ?_
                refine lv_istore hx hb d_Mdl_step_159 hl (Nat.le_of_ble_eq_true rfl) rfl (fun ls hl => ?_)
                have hl : lv_has ls 5 [(4, .int ((1 : Int32))), (3, .int ((0 : Int32))), (2, .int ((r3 &&& (31 : Int32)))), (1, .int (r3)), (0, .ref (a 0))] := hl
                refine lv_aload_n hx hb d_Mdl_step_161 rfl (lv_at hl 4 rfl) ?_
                refine lv_iload hx hb d_Mdl_step_162 (lv_at hl 0 rfl) ?_
                refine lv_if_ne (tgt := 171) hx hb d_Mdl_step_164 rfl (fun _ => ?_) (fun h => absurd h (by decide))
                refine lv_iconst (v := (0 : Int32)) hx hb d_Mdl_step_171 (by decide) ?_
                refine pt_Mdl X hP hS 10 (by decide) (v := (0 : Int32)) (S1 := (pr S46 9 ((0 : Int32)))) q_573 rfl (by decide) rfl rfl d_Mdl_step_172 (fun H locs hP hS => ?_)
                exact rt_s X hr hk hP hS (by rw [f_Mdl_step, if_pos h1, if_pos h2, bn_eq e5, if_pos h6, if_pos h36, bn_eq e39, if_pos h40, bn_eq e43, if_pos h44, bn_eq e47, if_neg h48]) d_Mdl_step_175
              ·
                refine lv_aload_n hx hb d_Mdl_step_130 rfl (lv_at hl 3 rfl) ?_
                refine lv_iload_n hx hb d_Mdl_step_131 rfl (lv_at hl 2 rfl) ?_
                refine kv_vs (rest := []) X hP hS (c_Mdl_stack l D cB cI a bz ha S46 r3) (kw_Mdl_stack hts q_794 ⟨Nat.le_of_ble_eq_true rfl, Nat.le_of_ble_eq_true rfl⟩) 0 rfl rfl rfl hl.1 rfl (lv_room (Nat.le_of_ble_eq_true rfl)) d_Mdl_step_132 (fun r49 S50 H locs e51 hP hS => ?_)
                refine lv_if_ne (tgt := 154) hx hb d_Mdl_step_135 rfl (fun h52 => ?_) (fun h52 => ?_)
                ·
                  refine lv_iconst (v := (1 : Int32)) hx hb d_Mdl_step_154 (by decide) ?_
                  refine lv_goto (tgt := 159) hx hb d_Mdl_step_155 rfl ?_
                  refine lv_istore hx hb d_Mdl_step_159 hl (Nat.le_of_ble_eq_true rfl) rfl (fun ls hl => ?_)
                  have hl : lv_has ls 5 [(4, .int ((1 : Int32))), (3, .int ((0 : Int32))), (2, .int ((r3 &&& (31 : Int32)))), (1, .int (r3)), (0, .ref (a 0))] := hl
                  refine lv_aload_n hx hb d_Mdl_step_161 rfl (lv_at hl 4 rfl) ?_
                  refine lv_iload hx hb d_Mdl_step_162 (lv_at hl 0 rfl) ?_
                  refine lv_if_ne (tgt := 171) hx hb d_Mdl_step_164 rfl (fun _ => ?_) (fun h => absurd h (by decide))
                  refine lv_iconst (v := (0 : Int32)) hx hb d_Mdl_step_171 (by decide) ?_
                  refine pt_Mdl X hP hS 10 (by decide) (v := (0 : Int32)) (S1 := (pr S50 9 ((0 : Int32)))) q_573 rfl (by decide) rfl rfl d_Mdl_step_172 (fun H locs hP hS => ?_)
                  exact rt_s X hr hk hP hS (by rw [f_Mdl_step, if_pos h1, if_pos h2, bn_eq e5, if_pos h6, if_pos h36, bn_eq e39, if_pos h40, bn_eq e43, if_pos h44, bn_eq e47, if_pos h48, bn_eq e51, if_neg h52]) d_Mdl_step_175
                ·
                  refine lv_aload_n hx hb d_Mdl_step_138 rfl (lv_at hl 3 rfl) ?_
                  refine lv_iload_n hx hb d_Mdl_step_139 rfl (lv_at hl 2 rfl) ?_
                  refine kv_vs (rest := []) X hP hS (c_Mdl_jump l D cB cI a bz ha S50 r3) (kw_Mdl_jump hts q_814 ⟨Nat.le_of_ble_eq_true rfl, Nat.le_of_ble_eq_true rfl⟩) 0 rfl rfl rfl hl.1 rfl (lv_room (Nat.le_of_ble_eq_true rfl)) d_Mdl_step_140 (fun r53 S54 H locs e55 hP hS => ?_)
                  refine lv_if_ne (tgt := 154) hx hb d_Mdl_step_143 rfl (fun h56 => ?_) (fun h56 => ?_)
                  ·
                    refine lv_iconst (v := (1 : Int32)) hx hb d_Mdl_step_154 (by decide) ?_
                    refine lv_goto (tgt := 159) hx hb d_Mdl_step_155 rfl ?_
                    refine lv_istore hx hb d_Mdl_step_159 hl (Nat.le_of_ble_eq_true rfl) rfl (fun ls hl => ?_)
                    have hl : lv_has ls 5 [(4, .int ((1 : Int32))), (3, .int ((0 : Int32))), (2, .int ((r3 &&& (31 : Int32)))), (1, .int (r3)), (0, .ref (a 0))] := hl
                    refine lv_aload_n hx hb d_Mdl_step_161 rfl (lv_at hl 4 rfl) ?_
                    refine lv_iload hx hb d_Mdl_step_162 (lv_at hl 0 rfl) ?_
                    refine lv_if_ne (tgt := 171) hx hb d_Mdl_step_164 rfl (fun _ => ?_) (fun h => absurd h (by decide))
                    refine lv_iconst (v := (0 : Int32)) hx hb d_Mdl_step_171 (by decide) ?_
                    refine pt_Mdl X hP hS 10 (by decide) (v := (0 : Int32)) (S1 := (pr S54 9 ((0 : Int32)))) q_573 rfl (by decide) rfl rfl d_Mdl_step_172 (fun H locs hP hS => ?_)
                    exact rt_s X hr hk hP hS (by rw [f_Mdl_step, if_pos h1, if_pos h2, bn_eq e5, if_pos h6, if_pos h36, bn_eq e39, if_pos h40, bn_eq e43, if_pos h44, bn_eq e47, if_pos h48, bn_eq e51, if_pos h52, bn_eq e55, if_neg h56]) d_Mdl_step_175
                  ·
                    refine lv_aload_n hx hb d_Mdl_step_146 rfl (lv_at hl 3 rfl) ?_
                    refine lv_iload_n hx hb d_Mdl_step_147 rfl (lv_at hl 2 rfl) ?_
                    refine kv_vs (rest := []) X hP hS (c_Mdl_other l D cB cI a bz ha S54 r3) (kw_Mdl_other hts q_830 ⟨Nat.le_of_ble_eq_true rfl, Nat.le_of_ble_eq_true rfl⟩) 0 rfl rfl rfl hl.1 rfl (lv_room (Nat.le_of_ble_eq_true rfl)) d_Mdl_step_148 (fun r57 S58 H locs e59 hP hS => ?_)
                    refine lv_if_eq (tgt := 158) hx hb d_Mdl_step_151 rfl (fun h60 => ?_) (fun h60 => ?_)
                    ·
                      refine lv_iconst (v := (0 : Int32)) hx hb d_Mdl_step_158 (by decide) ?_
                      refine lv_istore hx hb d_Mdl_step_159 hl (Nat.le_of_ble_eq_true rfl) rfl (fun ls hl => ?_)
                      have hl : lv_has ls 5 [(4, .int ((0 : Int32))), (3, .int ((0 : Int32))), (2, .int ((r3 &&& (31 : Int32)))), (1, .int (r3)), (0, .ref (a 0))] := hl
                      refine lv_aload_n hx hb d_Mdl_step_161 rfl (lv_at hl 4 rfl) ?_
                      refine lv_iload hx hb d_Mdl_step_162 (lv_at hl 0 rfl) ?_
                      refine lv_if_ne (tgt := 171) hx hb d_Mdl_step_164 rfl (fun h => absurd (by decide) h) (fun _ => ?_)
                      refine lv_iconst (v := (1 : Int32)) hx hb d_Mdl_step_167 (by decide) ?_
                      refine lv_goto (tgt := 172) hx hb d_Mdl_step_168 rfl ?_
                      refine pt_Mdl X hP hS 10 (by decide) (v := (1 : Int32)) (S1 := (pr S58 9 ((1 : Int32)))) q_573 rfl (by decide) rfl rfl d_Mdl_step_172 (fun H locs hP hS => ?_)
                      exact rt_s X hr hk hP hS (by rw [f_Mdl_step, if_pos h1, if_pos h2, bn_eq e5, if_pos h6, if_pos h36, bn_eq e39, if_pos h40, bn_eq e43, if_pos h44, bn_eq e47, if_pos h48, bn_eq e51, if_pos h52, bn_eq e55, if_pos h56, bn_eq e59, if_pos h60]) d_Mdl_step_175
                    ·
                      refine lv_iconst (v := (1 : Int32)) hx hb d_Mdl_step_154 (by decide) ?_
                      refine lv_goto (tgt := 159) hx hb d_Mdl_step_155 rfl ?_
                      refine lv_istore hx hb d_Mdl_step_159 hl (Nat.le_of_ble_eq_true rfl) rfl (fun ls hl => ?_)
                      have hl : lv_has ls 5 [(4, .int ((1 : Int32))), (3, .int ((0 : Int32))), (2, .int ((r3 &&& (31 : Int32)))), (1, .int (r3)), (0, .ref (a 0))] := hl
                      refine lv_aload_n hx hb d_Mdl_step_161 rfl (lv_at hl 4 rfl) ?_
                      refine lv_iload hx hb d_Mdl_step_162 (lv_at hl 0 rfl) ?_
                      refine lv_if_ne (tgt := 171) hx hb d_Mdl_step_164 rfl (fun _ => ?_) (fun h => absurd h (by decide))
                      refine lv_iconst (v := (0 : Int32)) hx hb d_Mdl_step_171 (by decide) ?_
                      refine pt_Mdl X hP hS 10 (by decide) (v := (0 : Int32)) (S1 := (pr S58 9 ((0 : Int32)))) q_573 rfl (by decide) rfl rfl d_Mdl_step_172 (fun H locs hP hS => ?_)
                      exact rt_s X hr hk hP hS (by rw [f_Mdl_step, if_pos h1, if_pos h2, bn_eq e5, if_pos h6, if_pos h36, bn_eq e39, if_pos h40, bn_eq e43, if_pos h44, bn_eq e47, if_pos h48, bn_eq e51, if_pos h52, bn_eq e55, if_pos h56, bn_eq e59, if_neg h60]) d_Mdl_step_175
        ·
          refine lv_iload_n hx hb d_Mdl_step_76 rfl (lv_at hl 0 rfl) ?_
          refine lv_bipush (v := (27 : Int32)) hx hb d_Mdl_step_77 (by decide) ?_
          refine lv_icmp_ne (tgt := 88) hx hb d_Mdl_step_79 rfl (fun h61 => ?_) (fun h61 => ?_)
          ·
            refine lv_iconst (v := (1 : Int32)) hx hb d_Mdl_step_88 (by decide) ?_
            refine lv_goto (tgt := 93) hx hb d_Mdl_step_89 rfl ?_
            refine lv_istore_n hx hb d_Mdl_step_93 rfl hl (Nat.le_of_ble_eq_true rfl) rfl (fun ls hl => ?_)
            have hl : lv_has ls 5 [(3, .int ((1 : Int32))), (2, .int ((r3 &&& (31 : Int32)))), (1, .int (r3)), (0, .ref (a 0))] := hl
            refine lv_iload_n hx hb d_Mdl_step_94 rfl (lv_at hl 0 rfl) ?_
            refine lv_if_eq (tgt := 106) hx hb d_Mdl_step_95 rfl (fun h => absurd h (by decide)) (fun _ => ?_)
            refine lv_aload_n hx hb d_Mdl_step_98 rfl (lv_at hl 3 rfl) ?_
            refine lv_iload_n hx hb d_Mdl_step_99 rfl (lv_at hl 2 rfl) ?_
            refine kv_vs (rest := []) X hP hS (c_Mdl_arithmetic l D cB cI a bz ha S4 r3) (kw_Mdl_arithmetic hts q_704 ⟨Nat.le_of_ble_eq_true rfl, Nat.le_of_ble_eq_true rfl⟩) 0 rfl rfl rfl hl.1 rfl (lv_room (Nat.le_of_ble_eq_true rfl)) d_Mdl_step_100 (fun r62 S63 H locs e64 hP hS => ?_)
            refine lv_goto (tgt := 159) hx hb d_Mdl_step_103 rfl ?_
            refine lv_istore hx hb d_Mdl_step_159 hl (Nat.le_of_ble_eq_true rfl) rfl (fun ls hl => ?_)
            have hl : lv_has ls 5 [(4, .int (r62)), (3, .int ((1 : Int32))), (2, .int ((r3 &&& (31 : Int32)))), (1, .int (r3)), (0, .ref (a 0))] := hl
            refine lv_aload_n hx hb d_Mdl_step_161 rfl (lv_at hl 4 rfl) ?_
            refine lv_iload hx hb d_Mdl_step_162 (lv_at hl 0 rfl) ?_
            refine lv_if_ne (tgt := 171) hx hb d_Mdl_step_164 rfl (fun h65 => ?_) (fun h65 => ?_)
            ·
              refine lv_iconst (v := (0 : Int32)) hx hb d_Mdl_step_171 (by decide) ?_
              refine pt_Mdl X hP hS 10 (by decide) (v := (0 : Int32)) (S1 := (pr S63 9 ((0 : Int32)))) q_573 rfl (by decide) rfl rfl d_Mdl_step_172 (fun H locs hP hS => ?_)
              exact rt_s X hr hk hP hS (by rw [f_Mdl_step, if_pos h1, if_pos h2, bn_eq e5, if_pos h6, if_neg h36, if_neg h61, bn_eq e64, if_neg h65]) d_Mdl_step_175
            ·
              refine lv_iconst (v := (1 : Int32)) hx hb d_Mdl_step_167 (by decide) ?_
              refine lv_goto (tgt := 172) hx hb d_Mdl_step_168 rfl ?_
              refine pt_Mdl X hP hS 10 (by decide) (v := (1 : Int32)) (S1 := (pr S63 9 ((1 : Int32)))) q_573 rfl (by decide) rfl rfl d_Mdl_step_172 (fun H locs hP hS => ?_)
              exact rt_s X hr hk hP hS (by rw [f_Mdl_step, if_pos h1, if_pos h2, bn_eq e5, if_pos h6, if_neg h36, if_neg h61, bn_eq e64, if_pos h65]) d_Mdl_step_175
          ·
            refine lv_iload_n hx hb d_Mdl_step_82 rfl (lv_at hl 0 rfl) ?_
            refine lv_bipush (v := (18 : Int32)) hx hb d_Mdl_step_83 (by decide) ?_
            refine lv_icmp_ne (tgt := 92) hx hb d_Mdl_step_85 rfl (fun _ => ?_) (fun h => absurd h (by rw [h61]; decide))
            refine lv_iconst (v := (0 : Int32)) hx hb d_Mdl_step_92 (by decide) ?_
            refine lv_istore_n hx hb d_Mdl_step_93 rfl hl (Nat.le_of_ble_eq_true rfl) rfl (fun ls hl => ?_)
            have hl : lv_has ls 5 [(3, .int ((0 : Int32))), (2, .int ((r3 &&& (31 : Int32)))), (1, .int (r3)), (0, .ref (a 0))] := hl
            refine lv_iload_n hx hb d_Mdl_step_94 rfl (lv_at hl 0 rfl) ?_
            refine lv_if_eq (tgt := 106) hx hb d_Mdl_step_95 rfl (fun _ => ?_) (fun h => absurd (by decide) h)
            refine lv_aload_n hx hb d_Mdl_step_106 rfl (lv_at hl 3 rfl) ?_
            refine lv_iload_n hx hb d_Mdl_step_107 rfl (lv_at hl 2 rfl) ?_
            refine kv_vs (rest := []) X hP hS (c_Mdl_change l D cB cI a bz ha S4 r3) (kw_Mdl_change hts q_762 ⟨Nat.le_of_ble_eq_true rfl, Nat.le_of_ble_eq_true rfl⟩) 0 rfl rfl rfl hl.1 rfl (lv_room (Nat.le_of_ble_eq_true rfl)) d_Mdl_step_108 (fun r66 S67 H locs e68 hP hS => ?_)
            refine lv_if_ne (tgt := 154) hx hb d_Mdl_step_111 rfl (fun h69 => ?_) (fun h69 => ?_)
            ·
              refine lv_iconst (v := (1 : Int32)) hx hb d_Mdl_step_154 (by decide) ?_
              refine lv_goto (tgt := 159) hx hb d_Mdl_step_155 rfl ?_
              refine lv_istore hx hb d_Mdl_step_159 hl (Nat.le_of_ble_eq_true rfl) rfl (fun ls hl => ?_)
              have hl : lv_has ls 5 [(4, .int ((1 : Int32))), (3, .int ((0 : Int32))), (2, .int ((r3 &&& (31 : Int32)))), (1, .int (r3)), (0, .ref (a 0))] := hl
              refine lv_aload_n hx hb d_Mdl_step_161 rfl (lv_at hl 4 rfl) ?_
              refine lv_iload hx hb d_Mdl_step_162 (lv_at hl 0 rfl) ?_
              refine lv_if_ne (tgt := 171) hx hb d_Mdl_step_164 rfl (fun _ => ?_) (fun h => absurd h (by decide))
              refine lv_iconst (v := (0 : Int32)) hx hb d_Mdl_step_171 (by decide) ?_
              refine pt_Mdl X hP hS 10 (by decide) (v := (0 : Int32)) (S1 := (pr S67 9 ((0 : Int32)))) q_573 rfl (by decide) rfl rfl d_Mdl_step_172 (fun H locs hP hS => ?_)
              exact rt_s X hr hk hP hS (by rw [f_Mdl_step, if_pos h1, if_pos h2, bn_eq e5, if_pos h6, if_neg h36, if_pos h61, bn_eq e68, if_neg h69]) d_Mdl_step_175
            ·
              refine lv_aload_n hx hb d_Mdl_step_114 rfl (lv_at hl 3 rfl) ?_
              refine lv_iload_n hx hb d_Mdl_step_115 rfl (lv_at hl 2 rfl) ?_
              refine kv_vs (rest := []) X hP hS (c_Mdl_index l D cB cI a bz ha S67 r3) (kw_Mdl_index hts q_774 ⟨Nat.le_of_ble_eq_true rfl, Nat.le_of_ble_eq_true rfl⟩) 0 rfl rfl rfl hl.1 rfl (lv_room (Nat.le_of_ble_eq_true rfl)) d_Mdl_step_116 (fun r70 S71 H locs e72 hP hS => ?_)
              refine lv_if_ne (tgt := 154) hx hb d_Mdl_step_119 rfl (fun h73 => ?_) (fun h73 => ?_)
              ·
                refine lv_iconst (v := (1 : Int32)) hx hb d_Mdl_step_154 (by decide) ?_
                refine lv_goto (tgt := 159) hx hb d_Mdl_step_155 rfl ?_
                refine lv_istore hx hb d_Mdl_step_159 hl (Nat.le_of_ble_eq_true rfl) rfl (fun ls hl => ?_)
                have hl : lv_has ls 5 [(4, .int ((1 : Int32))), (3, .int ((0 : Int32))), (2, .int ((r3 &&& (31 : Int32)))), (1, .int (r3)), (0, .ref (a 0))] := hl
                refine lv_aload_n hx hb d_Mdl_step_161 rfl (lv_at hl 4 rfl) ?_
                refine lv_iload hx hb d_Mdl_step_162 (lv_at hl 0 rfl) ?_
                refine lv_if_ne (tgt := 171) hx hb d_Mdl_step_164 rfl (fun _ => ?_) (fun h => absurd h (by decide))
                refine lv_iconst (v := (0 : Int32)) hx hb d_Mdl_step_171 (by decide) ?_
                refine pt_Mdl X hP hS 10 (by decide) (v := (0 : Int32)) (S1 := (pr S71 9 ((0 : Int32)))) q_573 rfl (by decide) rfl rfl d_Mdl_step_172 (fun H locs hP hS => ?_)
                exact rt_s X hr hk hP hS (by rw [f_Mdl_step, if_pos h1, if_pos h2, bn_eq e5, if_pos h6, if_neg h36, if_pos h61, bn_eq e68, if_pos h69, bn_eq e72, if_neg h73]) d_Mdl_step_175
              ·
                refine lv_aload_n hx hb d_Mdl_step_122 rfl (lv_at hl 3 rfl) ?_
                refine lv_iload_n hx hb d_Mdl_step_123 rfl (lv_at hl 2 rfl) ?_
                refine kv_vs (rest := []) X hP hS (c_Mdl_transfer l D cB cI a bz ha S71 r3) (kw_Mdl_transfer hts q_790 ⟨Nat.le_of_ble_eq_true rfl, Nat.le_of_ble_eq_true rfl⟩) 0 rfl rfl rfl hl.1 rfl (lv_room (Nat.le_of_ble_eq_true rfl)) d_Mdl_step_124 (fun r74 S75 H locs e76 hP hS => ?_)
                refine lv_if_ne (tgt := 154) hx hb d_Mdl_step_127 rfl (fun h77 => ?_) (fun h77 => ?_)
                ·
                  refine lv_iconst (v := (1 : Int32)) hx hb d_Mdl_step_154 (by decide) ?_
                  refine lv_goto (tgt := 159) hx hb d_Mdl_step_155 rfl ?_
                  refine lv_istore hx hb d_Mdl_step_159 hl (Nat.le_of_ble_eq_true rfl) rfl (fun ls hl => ?_)
                  have hl : lv_has ls 5 [(4, .int ((1 : Int32))), (3, .int ((0 : Int32))), (2, .int ((r3 &&& (31 : Int32)))), (1, .int (r3)), (0, .ref (a 0))] := hl
                  refine lv_aload_n hx hb d_Mdl_step_161 rfl (lv_at hl 4 rfl) ?_
                  refine lv_iload hx hb d_Mdl_step_162 (lv_at hl 0 rfl) ?_
                  refine lv_if_ne (tgt := 171) hx hb d_Mdl_step_164 rfl (fun _ => ?_) (fun h => absurd h (by decide))
                  refine lv_iconst (v := (0 : Int32)) hx hb d_Mdl_step_171 (by decide) ?_
                  refine pt_Mdl X hP hS 10 (by decide) (v := (0 : Int32)) (S1 := (pr S75 9 ((0 : Int32)))) q_573 rfl (by decide) rfl rfl d_Mdl_step_172 (fun H locs hP hS => ?_)
                  exact rt_s X hr hk hP hS (by rw [f_Mdl_step, if_pos h1, if_pos h2, bn_eq e5, if_pos h6, if_neg h36, if_pos h61, bn_eq e68, if_pos h69, bn_eq e72, if_pos h73, bn_eq e76, if_neg h77]) d_Mdl_step_175
                ·
                  refine lv_aload_n hx hb d_Mdl_step_130 rfl (lv_at hl 3 rfl) ?_
                  refine lv_iload_n hx hb d_Mdl_step_131 rfl (lv_at hl 2 rfl) ?_
                  refine kv_vs (rest := []) X hP hS (c_Mdl_stack l D cB cI a bz ha S75 r3) (kw_Mdl_stack hts q_794 ⟨Nat.le_of_ble_eq_true rfl, Nat.le_of_ble_eq_true rfl⟩) 0 rfl rfl rfl hl.1 rfl (lv_room (Nat.le_of_ble_eq_true rfl)) d_Mdl_step_132 (fun r78 S79 H locs e80 hP hS => ?_)
                  refine lv_if_ne (tgt := 154) hx hb d_Mdl_step_135 rfl (fun h81 => ?_) (fun h81 => ?_)
                  ·
                    refine lv_iconst (v := (1 : Int32)) hx hb d_Mdl_step_154 (by decide) ?_
                    refine lv_goto (tgt := 159) hx hb d_Mdl_step_155 rfl ?_
                    refine lv_istore hx hb d_Mdl_step_159 hl (Nat.le_of_ble_eq_true rfl) rfl (fun ls hl => ?_)
                    have hl : lv_has ls 5 [(4, .int ((1 : Int32))), (3, .int ((0 : Int32))), (2, .int ((r3 &&& (31 : Int32)))), (1, .int (r3)), (0, .ref (a 0))] := hl
                    refine lv_aload_n hx hb d_Mdl_step_161 rfl (lv_at hl 4 rfl) ?_
                    refine lv_iload hx hb d_Mdl_step_162 (lv_at hl 0 rfl) ?_
                    refine lv_if_ne (tgt := 171) hx hb d_Mdl_step_164 rfl (fun _ => ?_) (fun h => absurd h (by decide))
                    refine lv_iconst (v := (0 : Int32)) hx hb d_Mdl_step_171 (by decide) ?_
                    refine pt_Mdl X hP hS 10 (by decide) (v := (0 : Int32)) (S1 := (pr S79 9 ((0 : Int32)))) q_573 rfl (by decide) rfl rfl d_Mdl_step_172 (fun H locs hP hS => ?_)
                    exact rt_s X hr hk hP hS (by rw [f_Mdl_step, if_pos h1, if_pos h2, bn_eq e5, if_pos h6, if_neg h36, if_pos h61, bn_eq e68, if_pos h69, bn_eq e72, if_pos h73, bn_eq e76, if_pos h77, bn_eq e80, if_neg h81]) d_Mdl_step_175
                  ·
                    refine lv_aload_n hx hb d_Mdl_step_138 rfl (lv_at hl 3 rfl) ?_
                    refine lv_iload_n hx hb d_Mdl_step_139 rfl (lv_at hl 2 rfl) ?_
                    refine kv_vs (rest := []) X hP hS (c_Mdl_jump l D cB cI a bz ha S79 r3) (kw_Mdl_jump hts q_814 ⟨Nat.le_of_ble_eq_true rfl, Nat.le_of_ble_eq_true rfl⟩) 0 rfl rfl rfl hl.1 rfl (lv_room (Nat.le_of_ble_eq_true rfl)) d_Mdl_step_140 (fun r82 S83 H locs e84 hP hS => ?_)
                    refine lv_if_ne (tgt := 154) hx hb d_Mdl_step_143 rfl (fun h85 => ?_) (fun h85 => ?_)
                    ·
                      refine lv_iconst (v := (1 : Int32)) hx hb d_Mdl_step_154 (by decide) ?_
                      refine lv_goto (tgt := 159) hx hb d_Mdl_step_155 rfl ?_
                      refine lv_istore hx hb d_Mdl_step_159 hl (Nat.le_of_ble_eq_true rfl) rfl (fun ls hl => ?_)
                      have hl : lv_has ls 5 [(4, .int ((1 : Int32))), (3, .int ((0 : Int32))), (2, .int ((r3 &&& (31 : Int32)))), (1, .int (r3)), (0, .ref (a 0))] := hl
                      refine lv_aload_n hx hb d_Mdl_step_161 rfl (lv_at hl 4 rfl) ?_
                      refine lv_iload hx hb d_Mdl_step_162 (lv_at hl 0 rfl) ?_
                      refine lv_if_ne (tgt := 171) hx hb d_Mdl_step_164 rfl (fun _ => ?_) (fun h => absurd h (by decide))
                      refine lv_iconst (v := (0 : Int32)) hx hb d_Mdl_step_171 (by decide) ?_
                      refine pt_Mdl X hP hS 10 (by decide) (v := (0 : Int32)) (S1 := (pr S83 9 ((0 : Int32)))) q_573 rfl (by decide) rfl rfl d_Mdl_step_172 (fun H locs hP hS => ?_)
                      exact rt_s X hr hk hP hS (by rw [f_Mdl_step, if_pos h1, if_pos h2, bn_eq e5, if_pos h6, if_neg h36, if_pos h61, bn_eq e68, if_pos h69, bn_eq e72, if_pos h73, bn_eq e76, if_pos h77, bn_eq e80, if_pos h81, bn_eq e84, if_neg h85]) d_Mdl_step_175
                    ·
                      refine lv_aload_n hx hb d_Mdl_step_146 rfl (lv_at hl 3 rfl) ?_
                      refine lv_iload_n hx hb d_Mdl_step_147 rfl (lv_at hl 2 rfl) ?_
                      refine kv_vs (rest := []) X hP hS (c_Mdl_other l D cB cI a bz ha S83 r3) (kw_Mdl_other hts q_830 ⟨Nat.le_of_ble_eq_true rfl, Nat.le_of_ble_eq_true rfl⟩) 0 rfl rfl rfl hl.1 rfl (lv_room (Nat.le_of_ble_eq_true rfl)) d_Mdl_step_148 (fun r86 S87 H locs e88 hP hS => ?_)
                      refine lv_if_eq (tgt := 158) hx hb d_Mdl_step_151 rfl (fun h89 => ?_) (fun h89 => ?_)
                      ·
                        refine lv_iconst (v := (0 : Int32)) hx hb d_Mdl_step_158 (by decide) ?_
                        refine lv_istore hx hb d_Mdl_step_159 hl (Nat.le_of_ble_eq_true rfl) rfl (fun ls hl => ?_)
                        have hl : lv_has ls 5 [(4, .int ((0 : Int32))), (3, .int ((0 : Int32))), (2, .int ((r3 &&& (31 : Int32)))), (1, .int (r3)), (0, .ref (a 0))] := hl
                        refine lv_aload_n hx hb d_Mdl_step_161 rfl (lv_at hl 4 rfl) ?_
                        refine lv_iload hx hb d_Mdl_step_162 (lv_at hl 0 rfl) ?_
                        refine lv_if_ne (tgt := 171) hx hb d_Mdl_step_164 rfl (fun h => absurd (by decide) h) (fun _ => ?_)
                        refine lv_iconst (v := (1 : Int32)) hx hb d_Mdl_step_167 (by decide) ?_
                        refine lv_goto (tgt := 172) hx hb d_Mdl_step_168 rfl ?_
                        refine pt_Mdl X hP hS 10 (by decide) (v := (1 : Int32)) (S1 := (pr S87 9 ((1 : Int32)))) q_573 rfl (by decide) rfl rfl d_Mdl_step_172 (fun H locs hP hS => ?_)
                        exact rt_s X hr hk hP hS (by rw [f_Mdl_step, if_pos h1, if_pos h2, bn_eq e5, if_pos h6, if_neg h36, if_pos h61, bn_eq e68, if_pos h69, bn_eq e72, if_pos h73, bn_eq e76, if_pos h77, bn_eq e80, if_pos h81, bn_eq e84, if_pos h85, bn_eq e88, if_pos h89]) d_Mdl_step_175
                      ·
                        refine lv_iconst (v := (1 : Int32)) hx hb d_Mdl_step_154 (by decide) ?_
                        refine lv_goto (tgt := 159) hx hb d_Mdl_step_155 rfl ?_
                        refine lv_istore hx hb d_Mdl_step_159 hl (Nat.le_of_ble_eq_true rfl) rfl (fun ls hl => ?_)
                        have hl : lv_has ls 5 [(4, .int ((1 : Int32))), (3, .int ((0 : Int32))), (2, .int ((r3 &&& (31 : Int32)))), (1, .int (r3)), (0, .ref (a 0))] := hl
                        refine lv_aload_n hx hb d_Mdl_step_161 rfl (lv_at hl 4 rfl) ?_
                        refine lv_iload hx hb d_Mdl_step_162 (lv_at hl 0 rfl) ?_
                        refine lv_if_ne (tgt := 171) hx hb d_Mdl_step_164 rfl (fun _ => ?_) (fun h => absurd h (by decide))
                        refine lv_iconst (v := (0 : Int32)) hx hb d_Mdl_step_171 (by decide) ?_
                        refine pt_Mdl X hP hS 10 (by decide) (v := (0 : Int32)) (S1 := (pr S87 9 ((0 : Int32)))) q_573 rfl (by decide) rfl rfl d_Mdl_step_172 (fun H locs hP hS => ?_)
                        exact rt_s X hr hk hP hS (by rw [f_Mdl_step, if_pos h1, if_pos h2, bn_eq e5, if_pos h6, if_neg h36, if_pos h61, bn_eq e68, if_pos h69, bn_eq e72, if_pos h73, bn_eq e76, if_pos h77, bn_eq e80, if_pos h81, bn_eq e84, if_pos h85, bn_eq e88, if_neg h89]) d_Mdl_step_175
    ·
      refine lv_aload_n hx hb d_Mdl_step_37 rfl (lv_at hl 0 rfl) ?_
      refine lv_iconst (v := (4 : Int32)) hx hb d_Mdl_step_38 (by decide) ?_
      refine kv_v (rest := []) X hP hS (c_Mdl_is l D cB cI a bz ha (pr S 12 (((S.1 12) + (1 : Int32)))) (4 : Int32)) (kw_Mdl_is hts q_635 ⟨Nat.le_of_ble_eq_true rfl, Nat.le_of_ble_eq_true rfl⟩) 0 rfl rfl rfl hl.1 rfl (lv_room (Nat.le_of_ble_eq_true rfl)) d_Mdl_step_39 (fun H locs hP hS => ?_)
      refine lv_if_ne (tgt := 53) hx hb d_Mdl_step_42 rfl (fun h90 => ?_) (fun h90 => ?_)
      ·
        refine lv_aload_n hx hb d_Mdl_step_53 rfl (lv_at hl 0 rfl) ?_
        refine kv_vs (rest := []) X hP hS (c_Mdl_next l D cB cI a bz ha (pr S 12 (((S.1 12) + (1 : Int32))))) (kw_Mdl_next hts q_700 ⟨Nat.le_of_ble_eq_true rfl, Nat.le_of_ble_eq_true rfl⟩) 0 rfl rfl rfl hl.1 rfl (lv_room (Nat.le_of_ble_eq_true rfl)) d_Mdl_step_54 (fun r91 S92 H locs e93 hP hS => ?_)
        refine lv_istore_n hx hb d_Mdl_step_57 rfl hl (Nat.le_of_ble_eq_true rfl) rfl (fun ls hl => ?_)
        have hl : lv_has ls 5 [(1, .int (r91)), (0, .ref (a 0))] := hl
        refine lv_iload_n hx hb d_Mdl_step_58 rfl (lv_at hl 0 rfl) ?_
        refine lv_bipush (v := (31 : Int32)) hx hb d_Mdl_step_59 (by decide) ?_
        refine lv_iand hx hb d_Mdl_step_61 ?_
        refine lv_istore_n hx hb d_Mdl_step_62 rfl hl (Nat.le_of_ble_eq_true rfl) rfl (fun ls hl => ?_)
        have hl : lv_has ls 5 [(2, .int ((r91 &&& (31 : Int32)))), (1, .int (r91)), (0, .ref (a 0))] := hl
        refine lv_iload_n hx hb d_Mdl_step_63 rfl (lv_at hl 0 rfl) ?_
        refine lv_iconst (v := (1 : Int32)) hx hb d_Mdl_step_64 (by decide) ?_
        refine lv_iand hx hb d_Mdl_step_65 ?_
        refine lv_iconst (v := (1 : Int32)) hx hb d_Mdl_step_66 (by decide) ?_
        refine lv_icmp_ne (tgt := 82) hx hb d_Mdl_step_67 rfl (fun h94 => ?_) (fun h94 => ?_)
        ·
          refine lv_iload_n hx hb d_Mdl_step_82 rfl (lv_at hl 0 rfl) ?_
          refine lv_bipush (v := (18 : Int32)) hx hb d_Mdl_step_83 (by decide) ?_
          refine lv_icmp_ne (tgt := 92) hx hb d_Mdl_step_85 rfl (fun h95 => ?_) (fun h95 => ?_)
          ·
            refine lv_iconst (v := (0 : Int32)) hx hb d_Mdl_step_92 (by decide) ?_
            refine lv_istore_n hx hb d_Mdl_step_93 rfl hl (Nat.le_of_ble_eq_true rfl) rfl (fun ls hl => ?_)
            have hl : lv_has ls 5 [(3, .int ((0 : Int32))), (2, .int ((r91 &&& (31 : Int32)))), (1, .int (r91)), (0, .ref (a 0))] := hl
            refine lv_iload_n hx hb d_Mdl_step_94 rfl (lv_at hl 0 rfl) ?_
            refine lv_if_eq (tgt := 106) hx hb d_Mdl_step_95 rfl (fun _ => ?_) (fun h => absurd (by decide) h)
            refine lv_aload_n hx hb d_Mdl_step_106 rfl (lv_at hl 3 rfl) ?_
            refine lv_iload_n hx hb d_Mdl_step_107 rfl (lv_at hl 2 rfl) ?_
            refine kv_vs (rest := []) X hP hS (c_Mdl_change l D cB cI a bz ha S92 r91) (kw_Mdl_change hts q_762 ⟨Nat.le_of_ble_eq_true rfl, Nat.le_of_ble_eq_true rfl⟩) 0 rfl rfl rfl hl.1 rfl (lv_room (Nat.le_of_ble_eq_true rfl)) d_Mdl_step_108 (fun r96 S97 H locs e98 hP hS => ?_)
            refine lv_if_ne (tgt := 154) hx hb d_Mdl_step_111 rfl (fun h99 => ?_) (fun h99 => ?_)
            ·
              refine lv_iconst (v := (1 : Int32)) hx hb d_Mdl_step_154 (by decide) ?_
              refine lv_goto (tgt := 159) hx hb d_Mdl_step_155 rfl ?_
              refine lv_istore hx hb d_Mdl_step_159 hl (Nat.le_of_ble_eq_true rfl) rfl (fun ls hl => ?_)
              have hl : lv_has ls 5 [(4, .int ((1 : Int32))), (3, .int ((0 : Int32))), (2, .int ((r91 &&& (31 : Int32)))), (1, .int (r91)), (0, .ref (a 0))] := hl
              refine lv_aload_n hx hb d_Mdl_step_161 rfl (lv_at hl 4 rfl) ?_
              refine lv_iload hx hb d_Mdl_step_162 (lv_at hl 0 rfl) ?_
              refine lv_if_ne (tgt := 171) hx hb d_Mdl_step_164 rfl (fun _ => ?_) (fun h => absurd h (by decide))
              refine lv_iconst (v := (0 : Int32)) hx hb d_Mdl_step_171 (by decide) ?_
              refine pt_Mdl X hP hS 10 (by decide) (v := (0 : Int32)) (S1 := (pr S97 9 ((0 : Int32)))) q_573 rfl (by decide) rfl rfl d_Mdl_step_172 (fun H locs hP hS => ?_)
              exact rt_s X hr hk hP hS (by rw [f_Mdl_step, if_pos h1, if_neg h2, if_neg h90, bn_eq e93, if_neg h94, if_neg h95, bn_eq e98, if_neg h99]) d_Mdl_step_175
            ·
              refine lv_aload_n hx hb d_Mdl_step_114 rfl (lv_at hl 3 rfl) ?_
              refine lv_iload_n hx hb d_Mdl_step_115 rfl (lv_at hl 2 rfl) ?_
              refine kv_vs (rest := []) X hP hS (c_Mdl_index l D cB cI a bz ha S97 r91) (kw_Mdl_index hts q_774 ⟨Nat.le_of_ble_eq_true rfl, Nat.le_of_ble_eq_true rfl⟩) 0 rfl rfl rfl hl.1 rfl (lv_room (Nat.le_of_ble_eq_true rfl)) d_Mdl_step_116 (fun r100 S101 H locs e102 hP hS => ?_)
              refine lv_if_ne (tgt := 154) hx hb d_Mdl_step_119 rfl (fun h103 => ?_) (fun h103 => ?_)
              ·
                refine lv_iconst (v := (1 : Int32)) hx hb d_Mdl_step_154 (by decide) ?_
                refine lv_goto (tgt := 159) hx hb d_Mdl_step_155 rfl ?_
                refine lv_istore hx hb d_Mdl_step_159 hl (Nat.le_of_ble_eq_true rfl) rfl (fun ls hl => ?_)
                have hl : lv_has ls 5 [(4, .int ((1 : Int32))), (3, .int ((0 : Int32))), (2, .int ((r91 &&& (31 : Int32)))), (1, .int (r91)), (0, .ref (a 0))] := hl
                refine lv_aload_n hx hb d_Mdl_step_161 rfl (lv_at hl 4 rfl) ?_
                refine lv_iload hx hb d_Mdl_step_162 (lv_at hl 0 rfl) ?_
                refine lv_if_ne (tgt := 171) hx hb d_Mdl_step_164 rfl (fun _ => ?_) (fun h => absurd h (by decide))
                refine lv_iconst (v := (0 : Int32)) hx hb d_Mdl_step_171 (by decide) ?_
                refine pt_Mdl X hP hS 10 (by decide) (v := (0 : Int32)) (S1 := (pr S101 9 ((0 : Int32)))) q_573 rfl (by decide) rfl rfl d_Mdl_step_172 (fun H locs hP hS => ?_)
                exact rt_s X hr hk hP hS (by rw [f_Mdl_step, if_pos h1, if_neg h2, if_neg h90, bn_eq e93, if_neg h94, if_neg h95, bn_eq e98, if_pos h99, bn_eq e102, if_neg h103]) d_Mdl_step_175
              ·
                refine lv_aload_n hx hb d_Mdl_step_122 rfl (lv_at hl 3 rfl) ?_
                refine lv_iload_n hx hb d_Mdl_step_123 rfl (lv_at hl 2 rfl) ?_
                refine kv_vs (rest := []) X hP hS (c_Mdl_transfer l D cB cI a bz ha S101 r91) (kw_Mdl_transfer hts q_790 ⟨Nat.le_of_ble_eq_true rfl, Nat.le_of_ble_eq_true rfl⟩) 0 rfl rfl rfl hl.1 rfl (lv_room (Nat.le_of_ble_eq_true rfl)) d_Mdl_step_124 (fun r104 S105 H locs e106 hP hS => ?_)
                refine lv_if_ne (tgt := 154) hx hb d_Mdl_step_127 rfl (fun h107 => ?_) (fun h107 => ?_)
                ·
                  refine lv_iconst (v := (1 : Int32)) hx hb d_Mdl_step_154 (by decide) ?_
                  refine lv_goto (tgt := 159) hx hb d_Mdl_step_155 rfl ?_
                  refine lv_istore hx hb d_Mdl_step_159 hl (Nat.le_of_ble_eq_true rfl) rfl (fun ls hl => ?_)
                  have hl : lv_has ls 5 [(4, .int ((1 : Int32))), (3, .int ((0 : Int32))), (2, .int ((r91 &&& (31 : Int32)))), (1, .int (r91)), (0, .ref (a 0))] := hl
                  refine lv_aload_n hx hb d_Mdl_step_161 rfl (lv_at hl 4 rfl) ?_
                  refine lv_iload hx hb d_Mdl_step_162 (lv_at hl 0 rfl) ?_
                  refine lv_if_ne (tgt := 171) hx hb d_Mdl_step_164 rfl (fun _ => ?_) (fun h => absurd h (by decide))
                  refine lv_iconst (v := (0 : Int32)) hx hb d_Mdl_step_171 (by decide) ?_
                  refine pt_Mdl X hP hS 10 (by decide) (v := (0 : Int32)) (S1 := (pr S105 9 ((0 : Int32)))) q_573 rfl (by decide) rfl rfl d_Mdl_step_172 (fun H locs hP hS => ?_)
                  exact rt_s X hr hk hP hS (by rw [f_Mdl_step, if_pos h1, if_neg h2, if_neg h90, bn_eq e93, if_neg h94, if_neg h95, bn_eq e98, if_pos h99, bn_eq e102, if_pos h103, bn_eq e106, if_neg h107]) d_Mdl_step_175
                ·
                  refine lv_aload_n hx hb d_Mdl_step_130 rfl (lv_at hl 3 rfl) ?_
                  refine lv_iload_n hx hb d_Mdl_step_131 rfl (lv_at hl 2 rfl) ?_
                  refine kv_vs (rest := []) X hP hS (c_Mdl_stack l D cB cI a bz ha S105 r91) (kw_Mdl_stack hts q_794 ⟨Nat.le_of_ble_eq_true rfl, Nat.le_of_ble_eq_true rfl⟩) 0 rfl rfl rfl hl.1 rfl (lv_room (Nat.le_of_ble_eq_true rfl)) d_Mdl_step_132 (fun r108 S109 H locs e110 hP hS => ?_)
                  refine lv_if_ne (tgt := 154) hx hb d_Mdl_step_135 rfl (fun h111 => ?_) (fun h111 => ?_)
                  ·
                    refine lv_iconst (v := (1 : Int32)) hx hb d_Mdl_step_154 (by decide) ?_
                    refine lv_goto (tgt := 159) hx hb d_Mdl_step_155 rfl ?_
                    refine lv_istore hx hb d_Mdl_step_159 hl (Nat.le_of_ble_eq_true rfl) rfl (fun ls hl => ?_)
                    have hl : lv_has ls 5 [(4, .int ((1 : Int32))), (3, .int ((0 : Int32))), (2, .int ((r91 &&& (31 : Int32)))), (1, .int (r91)), (0, .ref (a 0))] := hl
                    refine lv_aload_n hx hb d_Mdl_step_161 rfl (lv_at hl 4 rfl) ?_
                    refine lv_iload hx hb d_Mdl_step_162 (lv_at hl 0 rfl) ?_
                    refine lv_if_ne (tgt := 171) hx hb d_Mdl_step_164 rfl (fun _ => ?_) (fun h => absurd h (by decide))
                    refine lv_iconst (v := (0 : Int32)) hx hb d_Mdl_step_171 (by decide) ?_
                    refine pt_Mdl X hP hS 10 (by decide) (v := (0 : Int32)) (S1 := (pr S109 9 ((0 : Int32)))) q_573 rfl (by decide) rfl rfl d_Mdl_step_172 (fun H locs hP hS => ?_)
                    exact rt_s X hr hk hP hS (by rw [f_Mdl_step, if_pos h1, if_neg h2, if_neg h90, bn_eq e93, if_neg h94, if_neg h95, bn_eq e98, if_pos h99, bn_eq e102, if_pos h103, bn_eq e106, if_pos h107, bn_eq e110, if_neg h111]) d_Mdl_step_175
                  ·
                    refine lv_aload_n hx hb d_Mdl_step_138 rfl (lv_at hl 3 rfl) ?_
                    refine lv_iload_n hx hb d_Mdl_step_139 rfl (lv_at hl 2 rfl) ?_
                    refine kv_vs (rest := []) X hP hS (c_Mdl_jump l D cB cI a bz ha S109 r91) (kw_Mdl_jump hts q_814 ⟨Nat.le_of_ble_eq_true rfl, Nat.le_of_ble_eq_true rfl⟩) 0 rfl rfl rfl hl.1 rfl (lv_room (Nat.le_of_ble_eq_true rfl)) d_Mdl_step_140 (fun r112 S113 H locs e114 hP hS => ?_)
                    refine lv_if_ne (tgt := 154) hx hb d_Mdl_step_143 rfl (fun h115 => ?_) (fun h115 => ?_)
                    ·
                      refine lv_iconst (v := (1 : Int32)) hx hb d_Mdl_step_154 (by decide) ?_
                      refine lv_goto (tgt := 159) hx hb d_Mdl_step_155 rfl ?_
                      refine lv_istore hx hb d_Mdl_step_159 hl (Nat.le_of_ble_eq_true rfl) rfl (fun ls hl => ?_)
                      have hl : lv_has ls 5 [(4, .int ((1 : Int32))), (3, .int ((0 : Int32))), (2, .int ((r91 &&& (31 : Int32)))), (1, .int (r91)), (0, .ref (a 0))] := hl
                      refine lv_aload_n hx hb d_Mdl_step_161 rfl (lv_at hl 4 rfl) ?_
                      refine lv_iload hx hb d_Mdl_step_162 (lv_at hl 0 rfl) ?_
                      refine lv_if_ne (tgt := 171) hx hb d_Mdl_step_164 rfl (fun _ => ?_) (fun h => absurd h (by decide))
                      refine lv_iconst (v := (0 : Int32)) hx hb d_Mdl_step_171 (by decide) ?_
                      refine pt_Mdl X hP hS 10 (by decide) (v := (0 : Int32)) (S1 := (pr S113 9 ((0 : Int32)))) q_573 rfl (by decide) rfl rfl d_Mdl_step_172 (fun H locs hP hS => ?_)
                      exact rt_s X hr hk hP hS (by rw [f_Mdl_step, if_pos h1, if_neg h2, if_neg h90, bn_eq e93, if_neg h94, if_neg h95, bn_eq e98, if_pos h99, bn_eq e102, if_pos h103, bn_eq e106, if_pos h107, bn_eq e110, if_pos h111, bn_eq e114, if_neg h115]) d_Mdl_step_175
                    ·
                      refine lv_aload_n hx hb d_Mdl_step_146 rfl (lv_at hl 3 rfl) ?_
                      refine lv_iload_n hx hb d_Mdl_step_147 rfl (lv_at hl 2 rfl) ?_
                      refine kv_vs (rest := []) X hP hS (c_Mdl_other l D cB cI a bz ha S113 r91) (kw_Mdl_other hts q_830 ⟨Nat.le_of_ble_eq_true rfl, Nat.le_of_ble_eq_true rfl⟩) 0 rfl rfl rfl hl.1 rfl (lv_room (Nat.le_of_ble_eq_true rfl)) d_Mdl_step_148 (fun r116 S117 H locs e118 hP hS => ?_)
                      refine lv_if_eq (tgt := 158) hx hb d_Mdl_step_151 rfl (fun h119 => ?_) (fun h119 => ?_)
                      ·
                        refine lv_iconst (v := (0 : Int32)) hx hb d_Mdl_step_158 (by decide) ?_
                        refine lv_istore hx hb d_Mdl_step_159 hl (Nat.le_of_ble_eq_true rfl) rfl (fun ls hl => ?_)
                        have hl : lv_has ls 5 [(4, .int ((0 : Int32))), (3, .int ((0 : Int32))), (2, .int ((r91 &&& (31 : Int32)))), (1, .int (r91)), (0, .ref (a 0))] := hl
                        refine lv_aload_n hx hb d_Mdl_step_161 rfl (lv_at hl 4 rfl) ?_
                        refine lv_iload hx hb d_Mdl_step_162 (lv_at hl 0 rfl) ?_
                        refine lv_if_ne (tgt := 171) hx hb d_Mdl_step_164 rfl (fun h => absurd (by decide) h) (fun _ => ?_)
                        refine lv_iconst (v := (1 : Int32)) hx hb d_Mdl_step_167 (by decide) ?_
                        refine lv_goto (tgt := 172) hx hb d_Mdl_step_168 rfl ?_
                        refine pt_Mdl X hP hS 10 (by decide) (v := (1 : Int32)) (S1 := (pr S117 9 ((1 : Int32)))) q_573 rfl (by decide) rfl rfl d_Mdl_step_172 (fun H locs hP hS => ?_)
                        exact rt_s X hr hk hP hS (by rw [f_Mdl_step, if_pos h1, if_neg h2, if_neg h90, bn_eq e93, if_neg h94, if_neg h95, bn_eq e98, if_pos h99, bn_eq e102, if_pos h103, bn_eq e106, if_pos h107, bn_eq e110, if_pos h111, bn_eq e114, if_pos h115, bn_eq e118, if_pos h119]) d_Mdl_step_175
                      ·
                        refine lv_iconst (v := (1 : Int32)) hx hb d_Mdl_step_154 (by decide) ?_
                        refine lv_goto (tgt := 159) hx hb d_Mdl_step_155 rfl ?_
                        refine lv_istore hx hb d_Mdl_step_159 hl (Nat.le_of_ble_eq_true rfl) rfl (fun ls hl => ?_)
                        have hl : lv_has ls 5 [(4, .int ((1 : Int32))), (3, .int ((0 : Int32))), (2, .int ((r91 &&& (31 : Int32)))), (1, .int (r91)), (0, .ref (a 0))] := hl
                        refine lv_aload_n hx hb d_Mdl_step_161 rfl (lv_at hl 4 rfl) ?_
                        refine lv_iload hx hb d_Mdl_step_162 (lv_at hl 0 rfl) ?_
                        refine lv_if_ne (tgt := 171) hx hb d_Mdl_step_164 rfl (fun _ => ?_) (fun h => absurd h (by decide))
                        refine lv_iconst (v := (0 : Int32)) hx hb d_Mdl_step_171 (by decide) ?_
                        refine pt_Mdl X hP hS 10 (by decide) (v := (0 : Int32)) (S1 := (pr S117 9 ((0 : Int32)))) q_573 rfl (by decide) rfl rfl d_Mdl_step_172 (fun H locs hP hS => ?_)
                        exact rt_s X hr hk hP hS (by rw [f_Mdl_step, if_pos h1, if_neg h2, if_neg h90, bn_eq e93, if_neg h94, if_neg h95, bn_eq e98, if_pos h99, bn_eq e102, if_pos h103, bn_eq e106, if_pos h107, bn_eq e110, if_pos h111, bn_eq e114, if_pos h115, bn_eq e118, if_neg h119]) d_Mdl_step_175
          ·
            refine lv_iconst (v := (1 : Int32)) hx hb d_Mdl_step_88 (by decide) ?_
            refine lv_goto (tgt := 93) hx hb d_Mdl_step_89 rfl ?_
            refine lv_istore_n hx hb d_Mdl_step_93 rfl hl (Nat.le_of_ble_eq_true rfl) rfl (fun ls hl => ?_)
            have hl : lv_has ls 5 [(3, .int ((1 : Int32))), (2, .int ((r91 &&& (31 : Int32)))), (1, .int (r91)), (0, .ref (a 0))] := hl
            refine lv_iload_n hx hb d_Mdl_step_94 rfl (lv_at hl 0 rfl) ?_
            refine lv_if_eq (tgt := 106) hx hb d_Mdl_step_95 rfl (fun h => absurd h (by decide)) (fun _ => ?_)
            refine lv_aload_n hx hb d_Mdl_step_98 rfl (lv_at hl 3 rfl) ?_
            refine lv_iload_n hx hb d_Mdl_step_99 rfl (lv_at hl 2 rfl) ?_
            refine kv_vs (rest := []) X hP hS (c_Mdl_arithmetic l D cB cI a bz ha S92 r91) (kw_Mdl_arithmetic hts q_704 ⟨Nat.le_of_ble_eq_true rfl, Nat.le_of_ble_eq_true rfl⟩) 0 rfl rfl rfl hl.1 rfl (lv_room (Nat.le_of_ble_eq_true rfl)) d_Mdl_step_100 (fun r120 S121 H locs e122 hP hS => ?_)
            refine lv_goto (tgt := 159) hx hb d_Mdl_step_103 rfl ?_
            refine lv_istore hx hb d_Mdl_step_159 hl (Nat.le_of_ble_eq_true rfl) rfl (fun ls hl => ?_)
            have hl : lv_has ls 5 [(4, .int (r120)), (3, .int ((1 : Int32))), (2, .int ((r91 &&& (31 : Int32)))), (1, .int (r91)), (0, .ref (a 0))] := hl
            refine lv_aload_n hx hb d_Mdl_step_161 rfl (lv_at hl 4 rfl) ?_
            refine lv_iload hx hb d_Mdl_step_162 (lv_at hl 0 rfl) ?_
            refine lv_if_ne (tgt := 171) hx hb d_Mdl_step_164 rfl (fun h123 => ?_) (fun h123 => ?_)
            ·
              refine lv_iconst (v := (0 : Int32)) hx hb d_Mdl_step_171 (by decide) ?_
              refine pt_Mdl X hP hS 10 (by decide) (v := (0 : Int32)) (S1 := (pr S121 9 ((0 : Int32)))) q_573 rfl (by decide) rfl rfl d_Mdl_step_172 (fun H locs hP hS => ?_)
              exact rt_s X hr hk hP hS (by rw [f_Mdl_step, if_pos h1, if_neg h2, if_neg h90, bn_eq e93, if_neg h94, if_pos h95, bn_eq e122, if_neg h123]) d_Mdl_step_175
            ·
              refine lv_iconst (v := (1 : Int32)) hx hb d_Mdl_step_167 (by decide) ?_
              refine lv_goto (tgt := 172) hx hb d_Mdl_step_168 rfl ?_
              refine pt_Mdl X hP hS 10 (by decide) (v := (1 : Int32)) (S1 := (pr S121 9 ((1 : Int32)))) q_573 rfl (by decide) rfl rfl d_Mdl_step_172 (fun H locs hP hS => ?_)
              exact rt_s X hr hk hP hS (by rw [f_Mdl_step, if_pos h1, if_neg h2, if_neg h90, bn_eq e93, if_neg h94, if_pos h95, bn_eq e122, if_pos h123]) d_Mdl_step_175
        ·
          refine lv_iload_n hx hb d_Mdl_step_70 rfl (lv_at hl 0 rfl) ?_
          refine lv_bipush (v := (11 : Int32)) hx hb d_Mdl_step_71 (by decide) ?_
          refine lv_icmp_eq (tgt := 82) hx hb d_Mdl_step_73 rfl (fun h124 => ?_) (fun h124 => ?_)
          ·
            refine lv_iload_n hx hb d_Mdl_step_82 rfl (lv_at hl 0 rfl) ?_
            refine lv_bipush (v := (18 : Int32)) hx hb d_Mdl_step_83 (by decide) ?_
            refine lv_icmp_ne (tgt := 92) hx hb d_Mdl_step_85 rfl (fun _ => ?_) (fun h => absurd h (by rw [h124]; decide))
            refine lv_iconst (v := (0 : Int32)) hx hb d_Mdl_step_92 (by decide) ?_
            refine lv_istore_n hx hb d_Mdl_step_93 rfl hl (Nat.le_of_ble_eq_true rfl) rfl (fun ls hl => ?_)
            have hl : lv_has ls 5 [(3, .int ((0 : Int32))), (2, .int ((r91 &&& (31 : Int32)))), (1, .int (r91)), (0, .ref (a 0))] := hl
            refine lv_iload_n hx hb d_Mdl_step_94 rfl (lv_at hl 0 rfl) ?_
            refine lv_if_eq (tgt := 106) hx hb d_Mdl_step_95 rfl (fun _ => ?_) (fun h => absurd (by decide) h)
            refine lv_aload_n hx hb d_Mdl_step_106 rfl (lv_at hl 3 rfl) ?_
            refine lv_iload_n hx hb d_Mdl_step_107 rfl (lv_at hl 2 rfl) ?_
            refine kv_vs (rest := []) X hP hS (c_Mdl_change l D cB cI a bz ha S92 r91) (kw_Mdl_change hts q_762 ⟨Nat.le_of_ble_eq_true rfl, Nat.le_of_ble_eq_true rfl⟩) 0 rfl rfl rfl hl.1 rfl (lv_room (Nat.le_of_ble_eq_true rfl)) d_Mdl_step_108 (fun r125 S126 H locs e127 hP hS => ?_)
            refine lv_if_ne (tgt := 154) hx hb d_Mdl_step_111 rfl (fun h128 => ?_) (fun h128 => ?_)
            ·
              refine lv_iconst (v := (1 : Int32)) hx hb d_Mdl_step_154 (by decide) ?_
              refine lv_goto (tgt := 159) hx hb d_Mdl_step_155 rfl ?_
              refine lv_istore hx hb d_Mdl_step_159 hl (Nat.le_of_ble_eq_true rfl) rfl (fun ls hl => ?_)
              have hl : lv_has ls 5 [(4, .int ((1 : Int32))), (3, .int ((0 : Int32))), (2, .int ((r91 &&& (31 : Int32)))), (1, .int (r91)), (0, .ref (a 0))] := hl
              refine lv_aload_n hx hb d_Mdl_step_161 rfl (lv_at hl 4 rfl) ?_
              refine lv_iload hx hb d_Mdl_step_162 (lv_at hl 0 rfl) ?_
              refine lv_if_ne (tgt := 171) hx hb d_Mdl_step_164 rfl (fun _ => ?_) (fun h => absurd h (by decide))
              refine lv_iconst (v := (0 : Int32)) hx hb d_Mdl_step_171 (by decide) ?_
              refine pt_Mdl X hP hS 10 (by decide) (v := (0 : Int32)) (S1 := (pr S126 9 ((0 : Int32)))) q_573 rfl (by decide) rfl rfl d_Mdl_step_172 (fun H locs hP hS => ?_)
              exact rt_s X hr hk hP hS (by rw [f_Mdl_step, if_pos h1, if_neg h2, if_neg h90, bn_eq e93, if_pos h94, if_pos h124, bn_eq e127, if_neg h128]) d_Mdl_step_175
            ·
              refine lv_aload_n hx hb d_Mdl_step_114 rfl (lv_at hl 3 rfl) ?_
              refine lv_iload_n hx hb d_Mdl_step_115 rfl (lv_at hl 2 rfl) ?_
              refine kv_vs (rest := []) X hP hS (c_Mdl_index l D cB cI a bz ha S126 r91) (kw_Mdl_index hts q_774 ⟨Nat.le_of_ble_eq_true rfl, Nat.le_of_ble_eq_true rfl⟩) 0 rfl rfl rfl hl.1 rfl (lv_room (Nat.le_of_ble_eq_true rfl)) d_Mdl_step_116 (fun r129 S130 H locs e131 hP hS => ?_)
              refine lv_if_ne (tgt := 154) hx hb d_Mdl_step_119 rfl (fun h132 => ?_) (fun h132 => ?_)
              ·
                refine lv_iconst (v := (1 : Int32)) hx hb d_Mdl_step_154 (by decide) ?_
                refine lv_goto (tgt := 159) hx hb d_Mdl_step_155 rfl ?_
                refine lv_istore hx hb d_Mdl_step_159 hl (Nat.le_of_ble_eq_true rfl) rfl (fun ls hl => ?_)
                have hl : lv_has ls 5 [(4, .int ((1 : Int32))), (3, .int ((0 : Int32))), (2, .int ((r91 &&& (31 : Int32)))), (1, .int (r91)), (0, .ref (a 0))] := hl
                refine lv_aload_n hx hb d_Mdl_step_161 rfl (lv_at hl 4 rfl) ?_
                refine lv_iload hx hb d_Mdl_step_162 (lv_at hl 0 rfl) ?_
                refine lv_if_ne (tgt := 171) hx hb d_Mdl_step_164 rfl (fun _ => ?_) (fun h => absurd h (by decide))
                refine lv_iconst (v := (0 : Int32)) hx hb d_Mdl_step_171 (by decide) ?_
                refine pt_Mdl X hP hS 10 (by decide) (v := (0 : Int32)) (S1 := (pr S130 9 ((0 : Int32)))) q_573 rfl (by decide) rfl rfl d_Mdl_step_172 (fun H locs hP hS => ?_)
                exact rt_s X hr hk hP hS (by rw [f_Mdl_step, if_pos h1, if_neg h2, if_neg h90, bn_eq e93, if_pos h94, if_pos h124, bn_eq e127, if_pos h128, bn_eq e131, if_neg h132]) d_Mdl_step_175
              ·
                refine lv_aload_n hx hb d_Mdl_step_122 rfl (lv_at hl 3 rfl) ?_
                refine lv_iload_n hx hb d_Mdl_step_123 rfl (lv_at hl 2 rfl) ?_
                refine kv_vs (rest := []) X hP hS (c_Mdl_transfer l D cB cI a bz ha S130 r91) (kw_Mdl_transfer hts q_790 ⟨Nat.le_of_ble_eq_true rfl, Nat.le_of_ble_eq_true rfl⟩) 0 rfl rfl rfl hl.1 rfl (lv_room (Nat.le_of_ble_eq_true rfl)) d_Mdl_step_124 (fun r133 S134 H locs e135 hP hS => ?_)
                refine lv_if_ne (tgt := 154) hx hb d_Mdl_step_127 rfl (fun h136 => ?_) (fun h136 => ?_)
                ·
                  refine lv_iconst (v := (1 : Int32)) hx hb d_Mdl_step_154 (by decide) ?_
                  refine lv_goto (tgt := 159) hx hb d_Mdl_step_155 rfl ?_
                  refine lv_istore hx hb d_Mdl_step_159 hl (Nat.le_of_ble_eq_true rfl) rfl (fun ls hl => ?_)
                  have hl : lv_has ls 5 [(4, .int ((1 : Int32))), (3, .int ((0 : Int32))), (2, .int ((r91 &&& (31 : Int32)))), (1, .int (r91)), (0, .ref (a 0))] := hl
                  refine lv_aload_n hx hb d_Mdl_step_161 rfl (lv_at hl 4 rfl) ?_
                  refine lv_iload hx hb d_Mdl_step_162 (lv_at hl 0 rfl) ?_
                  refine lv_if_ne (tgt := 171) hx hb d_Mdl_step_164 rfl (fun _ => ?_) (fun h => absurd h (by decide))
                  refine lv_iconst (v := (0 : Int32)) hx hb d_Mdl_step_171 (by decide) ?_
                  refine pt_Mdl X hP hS 10 (by decide) (v := (0 : Int32)) (S1 := (pr S134 9 ((0 : Int32)))) q_573 rfl (by decide) rfl rfl d_Mdl_step_172 (fun H locs hP hS => ?_)
                  exact rt_s X hr hk hP hS (by rw [f_Mdl_step, if_pos h1, if_neg h2, if_neg h90, bn_eq e93, if_pos h94, if_pos h124, bn_eq e127, if_pos h128, bn_eq e131, if_pos h132, bn_eq e135, if_neg h136]) d_Mdl_step_175
                ·
                  refine lv_aload_n hx hb d_Mdl_step_130 rfl (lv_at hl 3 rfl) ?_
                  refine lv_iload_n hx hb d_Mdl_step_131 rfl (lv_at hl 2 rfl) ?_
                  refine kv_vs (rest := []) X hP hS (c_Mdl_stack l D cB cI a bz ha S134 r91) (kw_Mdl_stack hts q_794 ⟨Nat.le_of_ble_eq_true rfl, Nat.le_of_ble_eq_true rfl⟩) 0 rfl rfl rfl hl.1 rfl (lv_room (Nat.le_of_ble_eq_true rfl)) d_Mdl_step_132 (fun r137 S138 H locs e139 hP hS => ?_)
                  refine lv_if_ne (tgt := 154) hx hb d_Mdl_step_135 rfl (fun h140 => ?_) (fun h140 => ?_)
                  ·
                    refine lv_iconst (v := (1 : Int32)) hx hb d_Mdl_step_154 (by decide) ?_
                    refine lv_goto (tgt := 159) hx hb d_Mdl_step_155 rfl ?_
                    refine lv_istore hx hb d_Mdl_step_159 hl (Nat.le_of_ble_eq_true rfl) rfl (fun ls hl => ?_)
                    have hl : lv_has ls 5 [(4, .int ((1 : Int32))), (3, .int ((0 : Int32))), (2, .int ((r91 &&& (31 : Int32)))), (1, .int (r91)), (0, .ref (a 0))] := hl
                    refine lv_aload_n hx hb d_Mdl_step_161 rfl (lv_at hl 4 rfl) ?_
                    refine lv_iload hx hb d_Mdl_step_162 (lv_at hl 0 rfl) ?_
                    refine lv_if_ne (tgt := 171) hx hb d_Mdl_step_164 rfl (fun _ => ?_) (fun h => absurd h (by decide))
                    refine lv_iconst (v := (0 : Int32)) hx hb d_Mdl_step_171 (by decide) ?_
                    refine pt_Mdl X hP hS 10 (by decide) (v := (0 : Int32)) (S1 := (pr S138 9 ((0 : Int32)))) q_573 rfl (by decide) rfl rfl d_Mdl_step_172 (fun H locs hP hS => ?_)
                    exact rt_s X hr hk hP hS (by rw [f_Mdl_step, if_pos h1, if_neg h2, if_neg h90, bn_eq e93, if_pos h94, if_pos h124, bn_eq e127, if_pos h128, bn_eq e131, if_pos h132, bn_eq e135, if_pos h136, bn_eq e139, if_neg h140]) d_Mdl_step_175
                  ·
                    refine lv_aload_n hx hb d_Mdl_step_138 rfl (lv_at hl 3 rfl) ?_
                    refine lv_iload_n hx hb d_Mdl_step_139 rfl (lv_at hl 2 rfl) ?_
                    refine kv_vs (rest := []) X hP hS (c_Mdl_jump l D cB cI a bz ha S138 r91) (kw_Mdl_jump hts q_814 ⟨Nat.le_of_ble_eq_true rfl, Nat.le_of_ble_eq_true rfl⟩) 0 rfl rfl rfl hl.1 rfl (lv_room (Nat.le_of_ble_eq_true rfl)) d_Mdl_step_140 (fun r141 S142 H locs e143 hP hS => ?_)
                    refine lv_if_ne (tgt := 154) hx hb d_Mdl_step_143 rfl (fun h144 => ?_) (fun h144 => ?_)
                    ·
                      refine lv_iconst (v := (1 : Int32)) hx hb d_Mdl_step_154 (by decide) ?_
                      refine lv_goto (tgt := 159) hx hb d_Mdl_step_155 rfl ?_
                      refine lv_istore hx hb d_Mdl_step_159 hl (Nat.le_of_ble_eq_true rfl) rfl (fun ls hl => ?_)
                      have hl : lv_has ls 5 [(4, .int ((1 : Int32))), (3, .int ((0 : Int32))), (2, .int ((r91 &&& (31 : Int32)))), (1, .int (r91)), (0, .ref (a 0))] := hl
                      refine lv_aload_n hx hb d_Mdl_step_161 rfl (lv_at hl 4 rfl) ?_
                      refine lv_iload hx hb d_Mdl_step_162 (lv_at hl 0 rfl) ?_
                      refine lv_if_ne (tgt := 171) hx hb d_Mdl_step_164 rfl (fun _ => ?_) (fun h => absurd h (by decide))
                      refine lv_iconst (v := (0 : Int32)) hx hb d_Mdl_step_171 (by decide) ?_
                      refine pt_Mdl X hP hS 10 (by decide) (v := (0 : Int32)) (S1 := (pr S142 9 ((0 : Int32)))) q_573 rfl (by decide) rfl rfl d_Mdl_step_172 (fun H locs hP hS => ?_)
                      exact rt_s X hr hk hP hS (by rw [f_Mdl_step, if_pos h1, if_neg h2, if_neg h90, bn_eq e93, if_pos h94, if_pos h124, bn_eq e127, if_pos h128, bn_eq e131, if_pos h132, bn_eq e135, if_pos h136, bn_eq e139, if_pos h140, bn_eq e143, if_neg h144]) d_Mdl_step_175
                    ·
                      refine lv_aload_n hx hb d_Mdl_step_146 rfl (lv_at hl 3 rfl) ?_
                      refine lv_iload_n hx hb d_Mdl_step_147 rfl (lv_at hl 2 rfl) ?_
                      refine kv_vs (rest := []) X hP hS (c_Mdl_other l D cB cI a bz ha S142 r91) (kw_Mdl_other hts q_830 ⟨Nat.le_of_ble_eq_true rfl, Nat.le_of_ble_eq_true rfl⟩) 0 rfl rfl rfl hl.1 rfl (lv_room (Nat.le_of_ble_eq_true rfl)) d_Mdl_step_148 (fun r145 S146 H locs e147 hP hS => ?_)
                      refine lv_if_eq (tgt := 158) hx hb d_Mdl_step_151 rfl (fun h148 => ?_) (fun h148 => ?_)
                      ·
                        refine lv_iconst (v := (0 : Int32)) hx hb d_Mdl_step_158 (by decide) ?_
                        refine lv_istore hx hb d_Mdl_step_159 hl (Nat.le_of_ble_eq_true rfl) rfl (fun ls hl => ?_)
                        have hl : lv_has ls 5 [(4, .int ((0 : Int32))), (3, .int ((0 : Int32))), (2, .int ((r91 &&& (31 : Int32)))), (1, .int (r91)), (0, .ref (a 0))] := hl
                        refine lv_aload_n hx hb d_Mdl_step_161 rfl (lv_at hl 4 rfl) ?_
                        refine lv_iload hx hb d_Mdl_step_162 (lv_at hl 0 rfl) ?_
                        refine lv_if_ne (tgt := 171) hx hb d_Mdl_step_164 rfl (fun h => absurd (by decide) h) (fun _ => ?_)
                        refine lv_iconst (v := (1 : Int32)) hx hb d_Mdl_step_167 (by decide) ?_
                        refine lv_goto (tgt := 172) hx hb d_Mdl_step_168 rfl ?_
                        refine pt_Mdl X hP hS 10 (by decide) (v := (1 : Int32)) (S1 := (pr S146 9 ((1 : Int32)))) q_573 rfl (by decide) rfl rfl d_Mdl_step_172 (fun H locs hP hS => ?_)
                        exact rt_s X hr hk hP hS (by rw [f_Mdl_step, if_pos h1, if_neg h2, if_neg h90, bn_eq e93, if_pos h94, if_pos h124, bn_eq e127, if_pos h128, bn_eq e131, if_pos h132, bn_eq e135, if_pos h136, bn_eq e139, if_pos h140, bn_eq e143, if_pos h144, bn_eq e147, if_pos h148]) d_Mdl_step_175
                      ·
                        refine lv_iconst (v := (1 : Int32)) hx hb d_Mdl_step_154 (by decide) ?_
                        refine lv_goto (tgt := 159) hx hb d_Mdl_step_155 rfl ?_
                        refine lv_istore hx hb d_Mdl_step_159 hl (Nat.le_of_ble_eq_true rfl) rfl (fun ls hl => ?_)
                        have hl : lv_has ls 5 [(4, .int ((1 : Int32))), (3, .int ((0 : Int32))), (2, .int ((r91 &&& (31 : Int32)))), (1, .int (r91)), (0, .ref (a 0))] := hl
                        refine lv_aload_n hx hb d_Mdl_step_161 rfl (lv_at hl 4 rfl) ?_
                        refine lv_iload hx hb d_Mdl_step_162 (lv_at hl 0 rfl) ?_
                        refine lv_if_ne (tgt := 171) hx hb d_Mdl_step_164 rfl (fun _ => ?_) (fun h => absurd h (by decide))
                        refine lv_iconst (v := (0 : Int32)) hx hb d_Mdl_step_171 (by decide) ?_
                        refine pt_Mdl X hP hS 10 (by decide) (v := (0 : Int32)) (S1 := (pr S146 9 ((0 : Int32)))) q_573 rfl (by decide) rfl rfl d_Mdl_step_172 (fun H locs hP hS => ?_)
                        exact rt_s X hr hk hP hS (by rw [f_Mdl_step, if_pos h1, if_neg h2, if_neg h90, bn_eq e93, if_pos h94, if_pos h124, bn_eq e127, if_pos h128, bn_eq e131, if_pos h132, bn_eq e135, if_pos h136, bn_eq e139, if_pos h140, bn_eq e143, if_pos h144, bn_eq e147, if_neg h148]) d_Mdl_step_175
          ·
            refine lv_iload_n hx hb d_Mdl_step_76 rfl (lv_at hl 0 rfl) ?_
            refine lv_bipush (v := (27 : Int32)) hx hb d_Mdl_step_77 (by decide) ?_
            refine lv_icmp_ne (tgt := 88) hx hb d_Mdl_step_79 rfl (fun h149 => ?_) (fun h149 => ?_)
            ·
              refine lv_iconst (v := (1 : Int32)) hx hb d_Mdl_step_88 (by decide) ?_
              refine lv_goto (tgt := 93) hx hb d_Mdl_step_89 rfl ?_
              refine lv_istore_n hx hb d_Mdl_step_93 rfl hl (Nat.le_of_ble_eq_true rfl) rfl (fun ls hl => ?_)
              have hl : lv_has ls 5 [(3, .int ((1 : Int32))), (2, .int ((r91 &&& (31 : Int32)))), (1, .int (r91)), (0, .ref (a 0))] := hl
              refine lv_iload_n hx hb d_Mdl_step_94 rfl (lv_at hl 0 rfl) ?_
              refine lv_if_eq (tgt := 106) hx hb d_Mdl_step_95 rfl (fun h => absurd h (by decide)) (fun _ => ?_)
              refine lv_aload_n hx hb d_Mdl_step_98 rfl (lv_at hl 3 rfl) ?_
              refine lv_iload_n hx hb d_Mdl_step_99 rfl (lv_at hl 2 rfl) ?_
              refine kv_vs (rest := []) X hP hS (c_Mdl_arithmetic l D cB cI a bz ha S92 r91) (kw_Mdl_arithmetic hts q_704 ⟨Nat.le_of_ble_eq_true rfl, Nat.le_of_ble_eq_true rfl⟩) 0 rfl rfl rfl hl.1 rfl (lv_room (Nat.le_of_ble_eq_true rfl)) d_Mdl_step_100 (fun r150 S151 H locs e152 hP hS => ?_)
              refine lv_goto (tgt := 159) hx hb d_Mdl_step_103 rfl ?_
              refine lv_istore hx hb d_Mdl_step_159 hl (Nat.le_of_ble_eq_true rfl) rfl (fun ls hl => ?_)
              have hl : lv_has ls 5 [(4, .int (r150)), (3, .int ((1 : Int32))), (2, .int ((r91 &&& (31 : Int32)))), (1, .int (r91)), (0, .ref (a 0))] := hl
              refine lv_aload_n hx hb d_Mdl_step_161 rfl (lv_at hl 4 rfl) ?_
              refine lv_iload hx hb d_Mdl_step_162 (lv_at hl 0 rfl) ?_
              refine lv_if_ne (tgt := 171) hx hb d_Mdl_step_164 rfl (fun h153 => ?_) (fun h153 => ?_)
              ·
                refine lv_iconst (v := (0 : Int32)) hx hb d_Mdl_step_171 (by decide) ?_
                refine pt_Mdl X hP hS 10 (by decide) (v := (0 : Int32)) (S1 := (pr S151 9 ((0 : Int32)))) q_573 rfl (by decide) rfl rfl d_Mdl_step_172 (fun H locs hP hS => ?_)
                exact rt_s X hr hk hP hS (by rw [f_Mdl_step, if_pos h1, if_neg h2, if_neg h90, bn_eq e93, if_pos h94, if_neg h124, if_neg h149, bn_eq e152, if_neg h153]) d_Mdl_step_175
              ·
                refine lv_iconst (v := (1 : Int32)) hx hb d_Mdl_step_167 (by decide) ?_
                refine lv_goto (tgt := 172) hx hb d_Mdl_step_168 rfl ?_
                refine pt_Mdl X hP hS 10 (by decide) (v := (1 : Int32)) (S1 := (pr S151 9 ((1 : Int32)))) q_573 rfl (by decide) rfl rfl d_Mdl_step_172 (fun H locs hP hS => ?_)
                exact rt_s X hr hk hP hS (by rw [f_Mdl_step, if_pos h1, if_neg h2, if_neg h90, bn_eq e93, if_pos h94, if_neg h124, if_neg h149, bn_eq e152, if_pos h153]) d_Mdl_step_175
            ·
              refine lv_iload_n hx hb d_Mdl_step_82 rfl (lv_at hl 0 rfl) ?_
              refine lv_bipush (v := (18 : Int32)) hx hb d_Mdl_step_83 (by decide) ?_
              refine lv_icmp_ne (tgt := 92) hx hb d_Mdl_step_85 rfl (fun _ => ?_) (fun h => absurd h (by rw [h149]; decide))
              refine lv_iconst (v := (0 : Int32)) hx hb d_Mdl_step_92 (by decide) ?_
              refine lv_istore_n hx hb d_Mdl_step_93 rfl hl (Nat.le_of_ble_eq_true rfl) rfl (fun ls hl => ?_)
              have hl : lv_has ls 5 [(3, .int ((0 : Int32))), (2, .int ((r91 &&& (31 : Int32)))), (1, .int (r91)), (0, .ref (a 0))] := hl
              refine lv_iload_n hx hb d_Mdl_step_94 rfl (lv_at hl 0 rfl) ?_
              refine lv_if_eq (tgt := 106) hx hb d_Mdl_step_95 rfl (fun _ => ?_) (fun h => absurd (by decide) h)
              refine lv_aload_n hx hb d_Mdl_step_106 rfl (lv_at hl 3 rfl) ?_
              refine lv_iload_n hx hb d_Mdl_step_107 rfl (lv_at hl 2 rfl) ?_
              refine kv_vs (rest := []) X hP hS (c_Mdl_change l D cB cI a bz ha S92 r91) (kw_Mdl_change hts q_762 ⟨Nat.le_of_ble_eq_true rfl, Nat.le_of_ble_eq_true rfl⟩) 0 rfl rfl rfl hl.1 rfl (lv_room (Nat.le_of_ble_eq_true rfl)) d_Mdl_step_108 (fun r154 S155 H locs e156 hP hS => ?_)
              refine lv_if_ne (tgt := 154) hx hb d_Mdl_step_111 rfl (fun h157 => ?_) (fun h157 => ?_)
              ·
                refine lv_iconst (v := (1 : Int32)) hx hb d_Mdl_step_154 (by decide) ?_
                refine lv_goto (tgt := 159) hx hb d_Mdl_step_155 rfl ?_
                refine lv_istore hx hb d_Mdl_step_159 hl (Nat.le_of_ble_eq_true rfl) rfl (fun ls hl => ?_)
                have hl : lv_has ls 5 [(4, .int ((1 : Int32))), (3, .int ((0 : Int32))), (2, .int ((r91 &&& (31 : Int32)))), (1, .int (r91)), (0, .ref (a 0))] := hl
                refine lv_aload_n hx hb d_Mdl_step_161 rfl (lv_at hl 4 rfl) ?_
                refine lv_iload hx hb d_Mdl_step_162 (lv_at hl 0 rfl) ?_
                refine lv_if_ne (tgt := 171) hx hb d_Mdl_step_164 rfl (fun _ => ?_) (fun h => absurd h (by decide))
                refine lv_iconst (v := (0 : Int32)) hx hb d_Mdl_step_171 (by decide) ?_
                refine pt_Mdl X hP hS 10 (by decide) (v := (0 : Int32)) (S1 := (pr S155 9 ((0 : Int32)))) q_573 rfl (by decide) rfl rfl d_Mdl_step_172 (fun H locs hP hS => ?_)
                exact rt_s X hr hk hP hS (by rw [f_Mdl_step, if_pos h1, if_neg h2, if_neg h90, bn_eq e93, if_pos h94, if_neg h124, if_pos h149, bn_eq e156, if_neg h157]) d_Mdl_step_175
              ·
                refine lv_aload_n hx hb d_Mdl_step_114 rfl (lv_at hl 3 rfl) ?_
                refine lv_iload_n hx hb d_Mdl_step_115 rfl (lv_at hl 2 rfl) ?_
                refine kv_vs (rest := []) X hP hS (c_Mdl_index l D cB cI a bz ha S155 r91) (kw_Mdl_index hts q_774 ⟨Nat.le_of_ble_eq_true rfl, Nat.le_of_ble_eq_true rfl⟩) 0 rfl rfl rfl hl.1 rfl (lv_room (Nat.le_of_ble_eq_true rfl)) d_Mdl_step_116 (fun r158 S159 H locs e160 hP hS => ?_)
                refine lv_if_ne (tgt := 154) hx hb d_Mdl_step_119 rfl (fun h161 => ?_) (fun h161 => ?_)
                ·
                  refine lv_iconst (v := (1 : Int32)) hx hb d_Mdl_step_154 (by decide) ?_
                  refine lv_goto (tgt := 159) hx hb d_Mdl_step_155 rfl ?_
                  refine lv_istore hx hb d_Mdl_step_159 hl (Nat.le_of_ble_eq_true rfl) rfl (fun ls hl => ?_)
                  have hl : lv_has ls 5 [(4, .int ((1 : Int32))), (3, .int ((0 : Int32))), (2, .int ((r91 &&& (31 : Int32)))), (1, .int (r91)), (0, .ref (a 0))] := hl
                  refine lv_aload_n hx hb d_Mdl_step_161 rfl (lv_at hl 4 rfl) ?_
                  refine lv_iload hx hb d_Mdl_step_162 (lv_at hl 0 rfl) ?_
                  refine lv_if_ne (tgt := 171) hx hb d_Mdl_step_164 rfl (fun _ => ?_) (fun h => absurd h (by decide))
                  refine lv_iconst (v := (0 : Int32)) hx hb d_Mdl_step_171 (by decide) ?_
                  refine pt_Mdl X hP hS 10 (by decide) (v := (0 : Int32)) (S1 := (pr S159 9 ((0 : Int32)))) q_573 rfl (by decide) rfl rfl d_Mdl_step_172 (fun H locs hP hS => ?_)
                  exact rt_s X hr hk hP hS (by rw [f_Mdl_step, if_pos h1, if_neg h2, if_neg h90, bn_eq e93, if_pos h94, if_neg h124, if_pos h149, bn_eq e156, if_pos h157, bn_eq e160, if_neg h161]) d_Mdl_step_175
                ·
                  refine lv_aload_n hx hb d_Mdl_step_122 rfl (lv_at hl 3 rfl) ?_
                  refine lv_iload_n hx hb d_Mdl_step_123 rfl (lv_at hl 2 rfl) ?_
                  refine kv_vs (rest := []) X hP hS (c_Mdl_transfer l D cB cI a bz ha S159 r91) (kw_Mdl_transfer hts q_790 ⟨Nat.le_of_ble_eq_true rfl, Nat.le_of_ble_eq_true rfl⟩) 0 rfl rfl rfl hl.1 rfl (lv_room (Nat.le_of_ble_eq_true rfl)) d_Mdl_step_124 (fun r162 S163 H locs e164 hP hS => ?_)
                  refine lv_if_ne (tgt := 154) hx hb d_Mdl_step_127 rfl (fun h165 => ?_) (fun h165 => ?_)
                  ·
                    refine lv_iconst (v := (1 : Int32)) hx hb d_Mdl_step_154 (by decide) ?_
                    refine lv_goto (tgt := 159) hx hb d_Mdl_step_155 rfl ?_
                    refine lv_istore hx hb d_Mdl_step_159 hl (Nat.le_of_ble_eq_true rfl) rfl (fun ls hl => ?_)
                    have hl : lv_has ls 5 [(4, .int ((1 : Int32))), (3, .int ((0 : Int32))), (2, .int ((r91 &&& (31 : Int32)))), (1, .int (r91)), (0, .ref (a 0))] := hl
                    refine lv_aload_n hx hb d_Mdl_step_161 rfl (lv_at hl 4 rfl) ?_
                    refine lv_iload hx hb d_Mdl_step_162 (lv_at hl 0 rfl) ?_
                    refine lv_if_ne (tgt := 171) hx hb d_Mdl_step_164 rfl (fun _ => ?_) (fun h => absurd h (by decide))
                    refine lv_iconst (v := (0 : Int32)) hx hb d_Mdl_step_171 (by decide) ?_
                    refine pt_Mdl X hP hS 10 (by decide) (v := (0 : Int32)) (S1 := (pr S163 9 ((0 : Int32)))) q_573 rfl (by decide) rfl rfl d_Mdl_step_172 (fun H locs hP hS => ?_)
                    exact rt_s X hr hk hP hS (by rw [f_Mdl_step, if_pos h1, if_neg h2, if_neg h90, bn_eq e93, if_pos h94, if_neg h124, if_pos h149, bn_eq e156, if_pos h157, bn_eq e160, if_pos h161, bn_eq e164, if_neg h165]) d_Mdl_step_175
                  ·
                    refine lv_aload_n hx hb d_Mdl_step_130 rfl (lv_at hl 3 rfl) ?_
                    refine lv_iload_n hx hb d_Mdl_step_131 rfl (lv_at hl 2 rfl) ?_
                    refine kv_vs (rest := []) X hP hS (c_Mdl_stack l D cB cI a bz ha S163 r91) (kw_Mdl_stack hts q_794 ⟨Nat.le_of_ble_eq_true rfl, Nat.le_of_ble_eq_true rfl⟩) 0 rfl rfl rfl hl.1 rfl (lv_room (Nat.le_of_ble_eq_true rfl)) d_Mdl_step_132 (fun r166 S167 H locs e168 hP hS => ?_)
                    refine lv_if_ne (tgt := 154) hx hb d_Mdl_step_135 rfl (fun h169 => ?_) (fun h169 => ?_)
                    ·
                      refine lv_iconst (v := (1 : Int32)) hx hb d_Mdl_step_154 (by decide) ?_
                      refine lv_goto (tgt := 159) hx hb d_Mdl_step_155 rfl ?_
                      refine lv_istore hx hb d_Mdl_step_159 hl (Nat.le_of_ble_eq_true rfl) rfl (fun ls hl => ?_)
                      have hl : lv_has ls 5 [(4, .int ((1 : Int32))), (3, .int ((0 : Int32))), (2, .int ((r91 &&& (31 : Int32)))), (1, .int (r91)), (0, .ref (a 0))] := hl
                      refine lv_aload_n hx hb d_Mdl_step_161 rfl (lv_at hl 4 rfl) ?_
                      refine lv_iload hx hb d_Mdl_step_162 (lv_at hl 0 rfl) ?_
                      refine lv_if_ne (tgt := 171) hx hb d_Mdl_step_164 rfl (fun _ => ?_) (fun h => absurd h (by decide))
                      refine lv_iconst (v := (0 : Int32)) hx hb d_Mdl_step_171 (by decide) ?_
                      refine pt_Mdl X hP hS 10 (by decide) (v := (0 : Int32)) (S1 := (pr S167 9 ((0 : Int32)))) q_573 rfl (by decide) rfl rfl d_Mdl_step_172 (fun H locs hP hS => ?_)
                      exact rt_s X hr hk hP hS (by rw [f_Mdl_step, if_pos h1, if_neg h2, if_neg h90, bn_eq e93, if_pos h94, if_neg h124, if_pos h149, bn_eq e156, if_pos h157, bn_eq e160, if_pos h161, bn_eq e164, if_pos h165, bn_eq e168, if_neg h169]) d_Mdl_step_175
                    ·
                      refine lv_aload_n hx hb d_Mdl_step_138 rfl (lv_at hl 3 rfl) ?_
                      refine lv_iload_n hx hb d_Mdl_step_139 rfl (lv_at hl 2 rfl) ?_
                      refine kv_vs (rest := []) X hP hS (c_Mdl_jump l D cB cI a bz ha S167 r91) (kw_Mdl_jump hts q_814 ⟨Nat.le_of_ble_eq_true rfl, Nat.le_of_ble_eq_true rfl⟩) 0 rfl rfl rfl hl.1 rfl (lv_room (Nat.le_of_ble_eq_true rfl)) d_Mdl_step_140 (fun r170 S171 H locs e172 hP hS => ?_)
                      refine lv_if_ne (tgt := 154) hx hb d_Mdl_step_143 rfl (fun h173 => ?_) (fun h173 => ?_)
                      ·
                        refine lv_iconst (v := (1 : Int32)) hx hb d_Mdl_step_154 (by decide) ?_
                        refine lv_goto (tgt := 159) hx hb d_Mdl_step_155 rfl ?_
                        refine lv_istore hx hb d_Mdl_step_159 hl (Nat.le_of_ble_eq_true rfl) rfl (fun ls hl => ?_)
                        have hl : lv_has ls 5 [(4, .int ((1 : Int32))), (3, .int ((0 : Int32))), (2, .int ((r91 &&& (31 : Int32)))), (1, .int (r91)), (0, .ref (a 0))] := hl
                        refine lv_aload_n hx hb d_Mdl_step_161 rfl (lv_at hl 4 rfl) ?_
                        refine lv_iload hx hb d_Mdl_step_162 (lv_at hl 0 rfl) ?_
                        refine lv_if_ne (tgt := 171) hx hb d_Mdl_step_164 rfl (fun _ => ?_) (fun h => absurd h (by decide))
                        refine lv_iconst (v := (0 : Int32)) hx hb d_Mdl_step_171 (by decide) ?_
                        refine pt_Mdl X hP hS 10 (by decide) (v := (0 : Int32)) (S1 := (pr S171 9 ((0 : Int32)))) q_573 rfl (by decide) rfl rfl d_Mdl_step_172 (fun H locs hP hS => ?_)
                        exact rt_s X hr hk hP hS (by rw [f_Mdl_step, if_pos h1, if_neg h2, if_neg h90, bn_eq e93, if_pos h94, if_neg h124, if_pos h149, bn_eq e156, if_pos h157, bn_eq e160, if_pos h161, bn_eq e164, if_pos h165, bn_eq e168, if_pos h169, bn_eq e172, if_neg h173]) d_Mdl_step_175
                      ·
                        refine lv_aload_n hx hb d_Mdl_step_146 rfl (lv_at hl 3 rfl) ?_
                        refine lv_iload_n hx hb d_Mdl_step_147 rfl (lv_at hl 2 rfl) ?_
                        refine kv_vs (rest := []) X hP hS (c_Mdl_other l D cB cI a bz ha S171 r91) (kw_Mdl_other hts q_830 ⟨Nat.le_of_ble_eq_true rfl, Nat.le_of_ble_eq_true rfl⟩) 0 rfl rfl rfl hl.1 rfl (lv_room (Nat.le_of_ble_eq_true rfl)) d_Mdl_step_148 (fun r174 S175 H locs e176 hP hS => ?_)
                        refine lv_if_eq (tgt := 158) hx hb d_Mdl_step_151 rfl (fun h177 => ?_) (fun h177 => ?_)
                        ·
                          refine lv_iconst (v := (0 : Int32)) hx hb d_Mdl_step_158 (by decide) ?_
                          refine lv_istore hx hb d_Mdl_step_159 hl (Nat.le_of_ble_eq_true rfl) rfl (fun ls hl => ?_)
                          have hl : lv_has ls 5 [(4, .int ((0 : Int32))), (3, .int ((0 : Int32))), (2, .int ((r91 &&& (31 : Int32)))), (1, .int (r91)), (0, .ref (a 0))] := hl
                          refine lv_aload_n hx hb d_Mdl_step_161 rfl (lv_at hl 4 rfl) ?_
                          refine lv_iload hx hb d_Mdl_step_162 (lv_at hl 0 rfl) ?_
                          refine lv_if_ne (tgt := 171) hx hb d_Mdl_step_164 rfl (fun h => absurd (by decide) h) (fun _ => ?_)
                          refine lv_iconst (v := (1 : Int32)) hx hb d_Mdl_step_167 (by decide) ?_
                          refine lv_goto (tgt := 172) hx hb d_Mdl_step_168 rfl ?_
                          refine pt_Mdl X hP hS 10 (by decide) (v := (1 : Int32)) (S1 := (pr S175 9 ((1 : Int32)))) q_573 rfl (by decide) rfl rfl d_Mdl_step_172 (fun H locs hP hS => ?_)
                          exact rt_s X hr hk hP hS (by rw [f_Mdl_step, if_pos h1, if_neg h2, if_neg h90, bn_eq e93, if_pos h94, if_neg h124, if_pos h149, bn_eq e156, if_pos h157, bn_eq e160, if_pos h161, bn_eq e164, if_pos h165, bn_eq e168, if_pos h169, bn_eq e172, if_pos h173, bn_eq e176, if_pos h177]) d_Mdl_step_175
                        ·
                          refine lv_iconst (v := (1 : Int32)) hx hb d_Mdl_step_154 (by decide) ?_
                          refine lv_goto (tgt := 159) hx hb d_Mdl_step_155 rfl ?_
                          refine lv_istore hx hb d_Mdl_step_159 hl (Nat.le_of_ble_eq_true rfl) rfl (fun ls hl => ?_)
                          have hl : lv_has ls 5 [(4, .int ((1 : Int32))), (3, .int ((0 : Int32))), (2, .int ((r91 &&& (31 : Int32)))), (1, .int (r91)), (0, .ref (a 0))] := hl
                          refine lv_aload_n hx hb d_Mdl_step_161 rfl (lv_at hl 4 rfl) ?_
                          refine lv_iload hx hb d_Mdl_step_162 (lv_at hl 0 rfl) ?_
                          refine lv_if_ne (tgt := 171) hx hb d_Mdl_step_164 rfl (fun _ => ?_) (fun h => absurd h (by decide))
                          refine lv_iconst (v := (0 : Int32)) hx hb d_Mdl_step_171 (by decide) ?_
                          refine pt_Mdl X hP hS 10 (by decide) (v := (0 : Int32)) (S1 := (pr S175 9 ((0 : Int32)))) q_573 rfl (by decide) rfl rfl d_Mdl_step_172 (fun H locs hP hS => ?_)
                          exact rt_s X hr hk hP hS (by rw [f_Mdl_step, if_pos h1, if_neg h2, if_neg h90, bn_eq e93, if_pos h94, if_neg h124, if_pos h149, bn_eq e156, if_pos h157, bn_eq e160, if_pos h161, bn_eq e164, if_pos h165, bn_eq e168, if_pos h169, bn_eq e172, if_pos h173, bn_eq e176, if_neg h177]) d_Mdl_step_175
      ·
        refine lv_aload_n hx hb d_Mdl_step_45 rfl (lv_at hl 0 rfl) ?_
        refine lv_sipush (v := (494 : Int32)) hx hb d_Mdl_step_46 (by decide) ?_
        refine kv_s (rest := []) X hP hS (c_Mdl_interruptFrom l D cB cI a bz ha (pr S 12 (((S.1 12) + (1 : Int32)))) (494 : Int32)) (kw_Mdl_interruptFrom hts q_659 ⟨Nat.le_of_ble_eq_true rfl, Nat.le_of_ble_eq_true rfl⟩) 0 rfl rfl rfl hl.1 rfl (lv_room (Nat.le_of_ble_eq_true rfl)) d_Mdl_step_49 (fun S178 H locs e179 hP hS => ?_)
        exact rt_s X hr hk hP hS (by rw [f_Mdl_step, if_pos h1, if_neg h2, if_pos h90, bs_eq e179]) d_Mdl_step_52
  ·
    refine lv_aload_n hx hb d_Mdl_step_17 rfl (lv_at hl 0 rfl) ?_
    refine lv_iconst (v := (0 : Int32)) hx hb d_Mdl_step_18 (by decide) ?_
    refine pt_Mdl X hP hS 11 (by decide) (v := (0 : Int32)) (S1 := (pr (pr S 12 (((S.1 12) + (1 : Int32)))) 10 ((0 : Int32)))) q_574 rfl (by decide) rfl rfl d_Mdl_step_19 (fun H locs hP hS => ?_)
    refine lv_aload_n hx hb d_Mdl_step_22 rfl (lv_at hl 0 rfl) ?_
    refine lv_sipush (v := (490 : Int32)) hx hb d_Mdl_step_23 (by decide) ?_
    refine kv_s (rest := []) X hP hS (c_Mdl_interruptFrom l D cB cI a bz ha (pr (pr S 12 (((S.1 12) + (1 : Int32)))) 10 ((0 : Int32))) (490 : Int32)) (kw_Mdl_interruptFrom hts q_659 ⟨Nat.le_of_ble_eq_true rfl, Nat.le_of_ble_eq_true rfl⟩) 0 rfl rfl rfl hl.1 rfl (lv_room (Nat.le_of_ble_eq_true rfl)) d_Mdl_step_26 (fun S180 H locs e181 hP hS => ?_)
    exact rt_s X hr hk hP hS (by rw [f_Mdl_step, if_neg h1, bs_eq e181]) d_Mdl_step_29
