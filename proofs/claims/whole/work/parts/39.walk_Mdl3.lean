theorem z_lj {S S2 : Sc} {r x : Int32} (e : f_Mdl_longJump S x = (r, S2)) : narrow .boolean (.int r) = .int r := by
  have h : (f_Mdl_longJump S x).1 = r := by rw [e]
  unfold f_Mdl_longJump at h
  repeat' split at h
  all_goals first
    | (have h2 : (1 : Int32) = r := h
       rw [← h2]; decide)
    | (have h2 : (0 : Int32) = r := h
       rw [← h2]; decide)
set_option maxHeartbeats 4000000 in
set_option maxRecDepth 100000 in
theorem c_Mdl_transfer (l : Launch) (D : va_G) (cB cI : ClassId) (a : Nat → Nat) (bz : Nat) (ha : ap a 3) (S : Sc) (x1 : Int32) : MI l y_Mdl_transfer b_Mdl_transfer 4 (some .boolean) rm_Mdl_transfer [.ref (a 0), .int x1] D cB cI (wdT cI a) (ow a 3) bz S (f_Mdl_transfer S x1) := by
  refine met_in R_Mdl (by decide) rfl (Nat.le_of_ble_eq_true rfl) (wdT_D ha cI) ?_
  intro p e s m below meth c ls X hr hk hl hP hS
  have hx := X.1.1
  have hb := X.1.2.1
  have hown := X.1.2.2.2.1
  have hts := X.1.2.2.2.2
  have hl : lv_has ls 4 [(0, .ref (a 0)), (1, .int x1)] := hl
  refine lv_aload_n hx hb d_Mdl_transfer_0 rfl (lv_at hl 0 rfl) ?_
  refine lv_bipush (v := (16 : Int32)) hx hb d_Mdl_transfer_1 (by decide) ?_
  refine kv_v (rest := []) X hP hS (c_Mdl_is l D cB cI a bz ha S (16 : Int32)) (kw_Mdl_is hts q_635 ⟨Nat.le_of_ble_eq_true rfl, Nat.le_of_ble_eq_true rfl⟩) 0 rfl rfl rfl hl.1 rfl (lv_room (Nat.le_of_ble_eq_true rfl)) d_Mdl_transfer_3 (fun H locs hP hS => ?_)
  refine lv_istore_n hx hb d_Mdl_transfer_6 rfl hl (Nat.le_of_ble_eq_true rfl) rfl (fun ls hl => ?_)
  have hl : lv_has ls 4 [(2, .int ((f_Mdl_is S (16 : Int32)))), (0, .ref (a 0)), (1, .int (x1))] := hl
  refine lv_iload_n hx hb d_Mdl_transfer_7 rfl (lv_at hl 2 rfl) ?_
  by_cases h1 : x1 = (27 : Int32)
  ·
    refine sw_l (k := (27 : Int32)) (tgt := 305) hx hb d_Mdl_transfer_8 h1 rfl ?_
    refine lv_aload_n hx hb d_Mdl_transfer_305 rfl (lv_at hl 1 rfl) ?_
    refine lv_aload_n hx hb d_Mdl_transfer_306 rfl (lv_at hl 1 rfl) ?_
    refine gt_Mdl X hP 1 (by decide) (v := .int (S.1 0)) q_564 rfl d_Mdl_transfer_307 ?_
    refine pt_Mdl X hP hS 4 (by decide) (v := S.1 0) (S1 := (pr S 3 (S.1 0))) q_567 rfl rfl rfl rfl d_Mdl_transfer_310 (fun H locs hP hS => ?_)
    refine lv_goto (tgt := 354) hx hb d_Mdl_transfer_313 rfl ?_
    refine lv_iconst (v := (1 : Int32)) hx hb d_Mdl_transfer_354 (by decide) ?_
    exact rt_z X hr hk hP hS (by decide) (by rw [f_Mdl_transfer, if_pos h1]) d_Mdl_transfer_355
  ·
    by_cases h2 : x1 = (59 : Int32)
    ·
      refine sw_l (k := (59 : Int32)) (tgt := 278) hx hb d_Mdl_transfer_8 h2 rfl ?_
      refine lv_aload_n hx hb d_Mdl_transfer_278 rfl (lv_at hl 1 rfl) ?_
      refine lv_aload_n hx hb d_Mdl_transfer_279 rfl (lv_at hl 1 rfl) ?_
      refine lv_aload_n hx hb d_Mdl_transfer_280 rfl (lv_at hl 1 rfl) ?_
      refine gt_Mdl X hP 4 (by decide) (v := .int (S.1 3)) q_567 rfl d_Mdl_transfer_281 ?_
      refine lv_iconst (v := (0 : Int32)) hx hb d_Mdl_transfer_284 (by decide) ?_
      refine kv_vs (rest := [.ref (a 0)]) X hP hS (c_Mdl_result l D cB cI a bz ha S (S.1 3) (0 : Int32)) (kw_Mdl_result hts q_749 ⟨Nat.le_of_ble_eq_true rfl, Nat.le_of_ble_eq_true rfl⟩) 0 rfl rfl rfl hl.1 rfl (lv_room (Nat.le_of_ble_eq_true rfl)) d_Mdl_transfer_285 (fun r3 S4 H locs e5 hP hS => ?_)
      refine pt_Mdl X hP hS 1 (by decide) (v := r3) (S1 := (pr S4 0 (r3))) q_564 rfl rfl rfl rfl d_Mdl_transfer_288 (fun H locs hP hS => ?_)
      refine lv_goto (tgt := 354) hx hb d_Mdl_transfer_291 rfl ?_
      refine lv_iconst (v := (1 : Int32)) hx hb d_Mdl_transfer_354 (by decide) ?_
      exact rt_z X hr hk hP hS (by decide) (by rw [f_Mdl_transfer, if_neg h1, if_pos h2, bn_eq e5]) d_Mdl_transfer_355
    ·
      by_cases h6 : x1 = (91 : Int32)
      ·
        refine sw_l (k := (91 : Int32)) (tgt := 246) hx hb d_Mdl_transfer_8 h6 rfl ?_
        refine lv_aload_n hx hb d_Mdl_transfer_246 rfl (lv_at hl 1 rfl) ?_
        refine lv_aload_n hx hb d_Mdl_transfer_247 rfl (lv_at hl 1 rfl) ?_
        refine lv_aload_n hx hb d_Mdl_transfer_248 rfl (lv_at hl 1 rfl) ?_
        refine gt_Mdl X hP 1 (by decide) (v := .int (S.1 0)) q_564 rfl d_Mdl_transfer_249 ?_
        refine lv_iconst (v := (0 : Int32)) hx hb d_Mdl_transfer_252 (by decide) ?_
        refine kv_vs (rest := [.ref (a 0)]) X hP hS (c_Mdl_result l D cB cI a bz ha S (S.1 0) (0 : Int32)) (kw_Mdl_result hts q_749 ⟨Nat.le_of_ble_eq_true rfl, Nat.le_of_ble_eq_true rfl⟩) 0 rfl rfl rfl hl.1 rfl (lv_room (Nat.le_of_ble_eq_true rfl)) d_Mdl_transfer_253 (fun r7 S8 H locs e9 hP hS => ?_)
        refine pt_Mdl X hP hS 5 (by decide) (v := r7) (S1 := (pr S8 4 (r7))) q_568 rfl rfl rfl rfl d_Mdl_transfer_256 (fun H locs hP hS => ?_)
        refine lv_goto (tgt := 354) hx hb d_Mdl_transfer_259 rfl ?_
        refine lv_iconst (v := (1 : Int32)) hx hb d_Mdl_transfer_354 (by decide) ?_
        exact rt_z X hr hk hP hS (by decide) (by rw [f_Mdl_transfer, if_neg h1, if_neg h2, if_pos h6, bn_eq e9]) d_Mdl_transfer_355
      ·
        by_cases h10 : x1 = (123 : Int32)
        ·
          refine sw_l (k := (123 : Int32)) (tgt := 262) hx hb d_Mdl_transfer_8 h10 rfl ?_
          refine lv_aload_n hx hb d_Mdl_transfer_262 rfl (lv_at hl 1 rfl) ?_
          refine lv_aload_n hx hb d_Mdl_transfer_263 rfl (lv_at hl 1 rfl) ?_
          refine lv_aload_n hx hb d_Mdl_transfer_264 rfl (lv_at hl 1 rfl) ?_
          refine gt_Mdl X hP 5 (by decide) (v := .int (S.1 4)) q_568 rfl d_Mdl_transfer_265 ?_
          refine lv_iconst (v := (0 : Int32)) hx hb d_Mdl_transfer_268 (by decide) ?_
          refine kv_vs (rest := [.ref (a 0)]) X hP hS (c_Mdl_result l D cB cI a bz ha S (S.1 4) (0 : Int32)) (kw_Mdl_result hts q_749 ⟨Nat.le_of_ble_eq_true rfl, Nat.le_of_ble_eq_true rfl⟩) 0 rfl rfl rfl hl.1 rfl (lv_room (Nat.le_of_ble_eq_true rfl)) d_Mdl_transfer_269 (fun r11 S12 H locs e13 hP hS => ?_)
          refine pt_Mdl X hP hS 1 (by decide) (v := r11) (S1 := (pr S12 0 (r11))) q_564 rfl rfl rfl rfl d_Mdl_transfer_272 (fun H locs hP hS => ?_)
          refine lv_goto (tgt := 354) hx hb d_Mdl_transfer_275 rfl ?_
          refine lv_iconst (v := (1 : Int32)) hx hb d_Mdl_transfer_354 (by decide) ?_
          exact rt_z X hr hk hP hS (by decide) (by rw [f_Mdl_transfer, if_neg h1, if_neg h2, if_neg h6, if_pos h10, bn_eq e13]) d_Mdl_transfer_355
        ·
          by_cases h14 : x1 = (138 : Int32)
          ·
            refine sw_l (k := (138 : Int32)) (tgt := 204) hx hb d_Mdl_transfer_8 h14 rfl ?_
            refine lv_aload_n hx hb d_Mdl_transfer_204 rfl (lv_at hl 1 rfl) ?_
            refine lv_aload_n hx hb d_Mdl_transfer_205 rfl (lv_at hl 1 rfl) ?_
            refine lv_aload_n hx hb d_Mdl_transfer_206 rfl (lv_at hl 1 rfl) ?_
            refine gt_Mdl X hP 2 (by decide) (v := .int (S.1 1)) q_565 rfl d_Mdl_transfer_207 ?_
            refine lv_aload_n hx hb d_Mdl_transfer_210 rfl (lv_at hl 1 rfl) ?_
            refine lv_bipush (v := (32 : Int32)) hx hb d_Mdl_transfer_211 (by decide) ?_
            refine kv_v (rest := [.int (S.1 1), .ref (a 0), .ref (a 0)]) X hP hS (c_Mdl_is l D cB cI a bz ha S (32 : Int32)) (kw_Mdl_is hts q_635 ⟨Nat.le_of_ble_eq_true rfl, Nat.le_of_ble_eq_true rfl⟩) 0 rfl rfl rfl hl.1 rfl (lv_room (Nat.le_of_ble_eq_true rfl)) d_Mdl_transfer_213 (fun H locs hP hS => ?_)
            refine kv_vs (rest := [.ref (a 0)]) X hP hS (c_Mdl_result l D cB cI a bz ha S (S.1 1) (f_Mdl_is S (32 : Int32))) (kw_Mdl_result hts q_749 ⟨Nat.le_of_ble_eq_true rfl, Nat.le_of_ble_eq_true rfl⟩) 0 rfl rfl rfl hl.1 rfl (lv_room (Nat.le_of_ble_eq_true rfl)) d_Mdl_transfer_216 (fun r15 S16 H locs e17 hP hS => ?_)
            refine kv_s (rest := []) X hP hS (c_Mdl_setAccumulator l D cB cI a bz ha S16 r15) (kw_Mdl_setAccumulator hts q_753 ⟨Nat.le_of_ble_eq_true rfl, Nat.le_of_ble_eq_true rfl⟩) 0 rfl rfl rfl hl.1 rfl (lv_room (Nat.le_of_ble_eq_true rfl)) d_Mdl_transfer_219 (fun S18 H locs e19 hP hS => ?_)
            refine lv_goto (tgt := 354) hx hb d_Mdl_transfer_222 rfl ?_
            refine lv_iconst (v := (1 : Int32)) hx hb d_Mdl_transfer_354 (by decide) ?_
            exact rt_z X hr hk hP hS (by decide) (by rw [f_Mdl_transfer, if_neg h1, if_neg h2, if_neg h6, if_neg h10, if_pos h14, bn_eq e17, bs_eq e19]) d_Mdl_transfer_355
          ·
            by_cases h20 : x1 = (152 : Int32)
            ·
              refine sw_l (k := (152 : Int32)) (tgt := 225) hx hb d_Mdl_transfer_8 h20 rfl ?_
              refine lv_aload_n hx hb d_Mdl_transfer_225 rfl (lv_at hl 1 rfl) ?_
              refine lv_aload_n hx hb d_Mdl_transfer_226 rfl (lv_at hl 1 rfl) ?_
              refine lv_aload_n hx hb d_Mdl_transfer_227 rfl (lv_at hl 1 rfl) ?_
              refine gt_Mdl X hP 3 (by decide) (v := .int (S.1 2)) q_566 rfl d_Mdl_transfer_228 ?_
              refine lv_aload_n hx hb d_Mdl_transfer_231 rfl (lv_at hl 1 rfl) ?_
              refine lv_bipush (v := (32 : Int32)) hx hb d_Mdl_transfer_232 (by decide) ?_
              refine kv_v (rest := [.int (S.1 2), .ref (a 0), .ref (a 0)]) X hP hS (c_Mdl_is l D cB cI a bz ha S (32 : Int32)) (kw_Mdl_is hts q_635 ⟨Nat.le_of_ble_eq_true rfl, Nat.le_of_ble_eq_true rfl⟩) 0 rfl rfl rfl hl.1 rfl (lv_room (Nat.le_of_ble_eq_true rfl)) d_Mdl_transfer_234 (fun H locs hP hS => ?_)
              refine kv_vs (rest := [.ref (a 0)]) X hP hS (c_Mdl_result l D cB cI a bz ha S (S.1 2) (f_Mdl_is S (32 : Int32))) (kw_Mdl_result hts q_749 ⟨Nat.le_of_ble_eq_true rfl, Nat.le_of_ble_eq_true rfl⟩) 0 rfl rfl rfl hl.1 rfl (lv_room (Nat.le_of_ble_eq_true rfl)) d_Mdl_transfer_237 (fun r21 S22 H locs e23 hP hS => ?_)
              refine kv_s (rest := []) X hP hS (c_Mdl_setAccumulator l D cB cI a bz ha S22 r21) (kw_Mdl_setAccumulator hts q_753 ⟨Nat.le_of_ble_eq_true rfl, Nat.le_of_ble_eq_true rfl⟩) 0 rfl rfl rfl hl.1 rfl (lv_room (Nat.le_of_ble_eq_true rfl)) d_Mdl_transfer_240 (fun S24 H locs e25 hP hS => ?_)
              refine lv_goto (tgt := 354) hx hb d_Mdl_transfer_243 rfl ?_
              refine lv_iconst (v := (1 : Int32)) hx hb d_Mdl_transfer_354 (by decide) ?_
              exact rt_z X hr hk hP hS (by decide) (by rw [f_Mdl_transfer, if_neg h1, if_neg h2, if_neg h6, if_neg h10, if_neg h14, if_pos h20, bn_eq e23, bs_eq e25]) d_Mdl_transfer_355
            ·
              by_cases h26 : x1 = (154 : Int32)
              ·
                refine sw_l (k := (154 : Int32)) (tgt := 294) hx hb d_Mdl_transfer_8 h26 rfl ?_
                refine lv_aload_n hx hb d_Mdl_transfer_294 rfl (lv_at hl 1 rfl) ?_
                refine lv_aload_n hx hb d_Mdl_transfer_295 rfl (lv_at hl 1 rfl) ?_
                refine gt_Mdl X hP 2 (by decide) (v := .int (S.1 1)) q_565 rfl d_Mdl_transfer_296 ?_
                refine pt_Mdl X hP hS 4 (by decide) (v := S.1 1) (S1 := (pr S 3 (S.1 1))) q_567 rfl rfl rfl rfl d_Mdl_transfer_299 (fun H locs hP hS => ?_)
                refine lv_goto (tgt := 354) hx hb d_Mdl_transfer_302 rfl ?_
                refine lv_iconst (v := (1 : Int32)) hx hb d_Mdl_transfer_354 (by decide) ?_
                exact rt_z X hr hk hP hS (by decide) (by rw [f_Mdl_transfer, if_neg h1, if_neg h2, if_neg h6, if_neg h10, if_neg h14, if_neg h20, if_pos h26]) d_Mdl_transfer_355
              ·
                by_cases h27 : x1 = (155 : Int32)
                ·
                  refine sw_l (k := (155 : Int32)) (tgt := 172) hx hb d_Mdl_transfer_8 h27 rfl ?_
                  refine lv_aload_n hx hb d_Mdl_transfer_172 rfl (lv_at hl 1 rfl) ?_
                  refine lv_aload_n hx hb d_Mdl_transfer_173 rfl (lv_at hl 1 rfl) ?_
                  refine lv_aload_n hx hb d_Mdl_transfer_174 rfl (lv_at hl 1 rfl) ?_
                  refine gt_Mdl X hP 2 (by decide) (v := .int (S.1 1)) q_565 rfl d_Mdl_transfer_175 ?_
                  refine lv_iload_n hx hb d_Mdl_transfer_178 rfl (lv_at hl 0 rfl) ?_
                  refine kv_vs (rest := [.ref (a 0)]) X hP hS (c_Mdl_result l D cB cI a bz ha S (S.1 1) (f_Mdl_is S (16 : Int32))) (kw_Mdl_result hts q_749 ⟨Nat.le_of_ble_eq_true rfl, Nat.le_of_ble_eq_true rfl⟩) 0 rfl rfl rfl hl.1 rfl (lv_room (Nat.le_of_ble_eq_true rfl)) d_Mdl_transfer_179 (fun r28 S29 H locs e30 hP hS => ?_)
                  refine pt_Mdl X hP hS 3 (by decide) (v := r28) (S1 := (pr S29 2 (r28))) q_566 rfl rfl rfl rfl d_Mdl_transfer_182 (fun H locs hP hS => ?_)
                  refine lv_goto (tgt := 354) hx hb d_Mdl_transfer_185 rfl ?_
                  refine lv_iconst (v := (1 : Int32)) hx hb d_Mdl_transfer_354 (by decide) ?_
                  exact rt_z X hr hk hP hS (by decide) (by rw [f_Mdl_transfer, if_neg h1, if_neg h2, if_neg h6, if_neg h10, if_neg h14, if_neg h20, if_neg h26, if_pos h27, bn_eq e30]) d_Mdl_transfer_355
                ·
                  by_cases h31 : x1 = (168 : Int32)
                  ·
                    refine sw_l (k := (168 : Int32)) (tgt := 140) hx hb d_Mdl_transfer_8 h31 rfl ?_
                    refine lv_aload_n hx hb d_Mdl_transfer_140 rfl (lv_at hl 1 rfl) ?_
                    refine lv_aload_n hx hb d_Mdl_transfer_141 rfl (lv_at hl 1 rfl) ?_
                    refine lv_aload_n hx hb d_Mdl_transfer_142 rfl (lv_at hl 1 rfl) ?_
                    refine gt_Mdl X hP 1 (by decide) (v := .int (S.1 0)) q_564 rfl d_Mdl_transfer_143 ?_
                    refine lv_iload_n hx hb d_Mdl_transfer_146 rfl (lv_at hl 0 rfl) ?_
                    refine kv_vs (rest := [.ref (a 0)]) X hP hS (c_Mdl_result l D cB cI a bz ha S (S.1 0) (f_Mdl_is S (16 : Int32))) (kw_Mdl_result hts q_749 ⟨Nat.le_of_ble_eq_true rfl, Nat.le_of_ble_eq_true rfl⟩) 0 rfl rfl rfl hl.1 rfl (lv_room (Nat.le_of_ble_eq_true rfl)) d_Mdl_transfer_147 (fun r32 S33 H locs e34 hP hS => ?_)
                    refine pt_Mdl X hP hS 3 (by decide) (v := r32) (S1 := (pr S33 2 (r32))) q_566 rfl rfl rfl rfl d_Mdl_transfer_150 (fun H locs hP hS => ?_)
                    refine lv_goto (tgt := 354) hx hb d_Mdl_transfer_153 rfl ?_
                    refine lv_iconst (v := (1 : Int32)) hx hb d_Mdl_transfer_354 (by decide) ?_
                    exact rt_z X hr hk hP hS (by decide) (by rw [f_Mdl_transfer, if_neg h1, if_neg h2, if_neg h6, if_neg h10, if_neg h14, if_neg h20, if_neg h26, if_neg h27, if_pos h31, bn_eq e34]) d_Mdl_transfer_355
                  ·
                    by_cases h35 : x1 = (170 : Int32)
                    ·
                      refine sw_l (k := (170 : Int32)) (tgt := 124) hx hb d_Mdl_transfer_8 h35 rfl ?_
                      refine lv_aload_n hx hb d_Mdl_transfer_124 rfl (lv_at hl 1 rfl) ?_
                      refine lv_aload_n hx hb d_Mdl_transfer_125 rfl (lv_at hl 1 rfl) ?_
                      refine lv_aload_n hx hb d_Mdl_transfer_126 rfl (lv_at hl 1 rfl) ?_
                      refine gt_Mdl X hP 1 (by decide) (v := .int (S.1 0)) q_564 rfl d_Mdl_transfer_127 ?_
                      refine lv_iload_n hx hb d_Mdl_transfer_130 rfl (lv_at hl 0 rfl) ?_
                      refine kv_vs (rest := [.ref (a 0)]) X hP hS (c_Mdl_result l D cB cI a bz ha S (S.1 0) (f_Mdl_is S (16 : Int32))) (kw_Mdl_result hts q_749 ⟨Nat.le_of_ble_eq_true rfl, Nat.le_of_ble_eq_true rfl⟩) 0 rfl rfl rfl hl.1 rfl (lv_room (Nat.le_of_ble_eq_true rfl)) d_Mdl_transfer_131 (fun r36 S37 H locs e38 hP hS => ?_)
                      refine pt_Mdl X hP hS 2 (by decide) (v := r36) (S1 := (pr S37 1 (r36))) q_565 rfl rfl rfl rfl d_Mdl_transfer_134 (fun H locs hP hS => ?_)
                      refine lv_goto (tgt := 354) hx hb d_Mdl_transfer_137 rfl ?_
                      refine lv_iconst (v := (1 : Int32)) hx hb d_Mdl_transfer_354 (by decide) ?_
                      exact rt_z X hr hk hP hS (by decide) (by rw [f_Mdl_transfer, if_neg h1, if_neg h2, if_neg h6, if_neg h10, if_neg h14, if_neg h20, if_neg h26, if_neg h27, if_neg h31, if_pos h35, bn_eq e38]) d_Mdl_transfer_355
                    ·
                      by_cases h39 : x1 = (186 : Int32)
                      ·
                        refine sw_l (k := (186 : Int32)) (tgt := 156) hx hb d_Mdl_transfer_8 h39 rfl ?_
                        refine lv_aload_n hx hb d_Mdl_transfer_156 rfl (lv_at hl 1 rfl) ?_
                        refine lv_aload_n hx hb d_Mdl_transfer_157 rfl (lv_at hl 1 rfl) ?_
                        refine lv_aload_n hx hb d_Mdl_transfer_158 rfl (lv_at hl 1 rfl) ?_
                        refine gt_Mdl X hP 4 (by decide) (v := .int (S.1 3)) q_567 rfl d_Mdl_transfer_159 ?_
                        refine lv_iload_n hx hb d_Mdl_transfer_162 rfl (lv_at hl 0 rfl) ?_
                        refine kv_vs (rest := [.ref (a 0)]) X hP hS (c_Mdl_result l D cB cI a bz ha S (S.1 3) (f_Mdl_is S (16 : Int32))) (kw_Mdl_result hts q_749 ⟨Nat.le_of_ble_eq_true rfl, Nat.le_of_ble_eq_true rfl⟩) 0 rfl rfl rfl hl.1 rfl (lv_room (Nat.le_of_ble_eq_true rfl)) d_Mdl_transfer_163 (fun r40 S41 H locs e42 hP hS => ?_)
                        refine pt_Mdl X hP hS 2 (by decide) (v := r40) (S1 := (pr S41 1 (r40))) q_565 rfl rfl rfl rfl d_Mdl_transfer_166 (fun H locs hP hS => ?_)
                        refine lv_goto (tgt := 354) hx hb d_Mdl_transfer_169 rfl ?_
                        refine lv_iconst (v := (1 : Int32)) hx hb d_Mdl_transfer_354 (by decide) ?_
                        exact rt_z X hr hk hP hS (by decide) (by rw [f_Mdl_transfer, if_neg h1, if_neg h2, if_neg h6, if_neg h10, if_neg h14, if_neg h20, if_neg h26, if_neg h27, if_neg h31, if_neg h35, if_pos h39, bn_eq e42]) d_Mdl_transfer_355
                      ·
                        by_cases h43 : x1 = (187 : Int32)
                        ·
                          refine sw_l (k := (187 : Int32)) (tgt := 188) hx hb d_Mdl_transfer_8 h43 rfl ?_
                          refine lv_aload_n hx hb d_Mdl_transfer_188 rfl (lv_at hl 1 rfl) ?_
                          refine lv_aload_n hx hb d_Mdl_transfer_189 rfl (lv_at hl 1 rfl) ?_
                          refine lv_aload_n hx hb d_Mdl_transfer_190 rfl (lv_at hl 1 rfl) ?_
                          refine gt_Mdl X hP 3 (by decide) (v := .int (S.1 2)) q_566 rfl d_Mdl_transfer_191 ?_
                          refine lv_iload_n hx hb d_Mdl_transfer_194 rfl (lv_at hl 0 rfl) ?_
                          refine kv_vs (rest := [.ref (a 0)]) X hP hS (c_Mdl_result l D cB cI a bz ha S (S.1 2) (f_Mdl_is S (16 : Int32))) (kw_Mdl_result hts q_749 ⟨Nat.le_of_ble_eq_true rfl, Nat.le_of_ble_eq_true rfl⟩) 0 rfl rfl rfl hl.1 rfl (lv_room (Nat.le_of_ble_eq_true rfl)) d_Mdl_transfer_195 (fun r44 S45 H locs e46 hP hS => ?_)
                          refine pt_Mdl X hP hS 2 (by decide) (v := r44) (S1 := (pr S45 1 (r44))) q_565 rfl rfl rfl rfl d_Mdl_transfer_198 (fun H locs hP hS => ?_)
                          refine lv_goto (tgt := 354) hx hb d_Mdl_transfer_201 rfl ?_
                          refine lv_iconst (v := (1 : Int32)) hx hb d_Mdl_transfer_354 (by decide) ?_
                          exact rt_z X hr hk hP hS (by decide) (by rw [f_Mdl_transfer, if_neg h1, if_neg h2, if_neg h6, if_neg h10, if_neg h14, if_neg h20, if_neg h26, if_neg h27, if_neg h31, if_neg h35, if_neg h39, if_pos h43, bn_eq e46]) d_Mdl_transfer_355
                        ·
                          by_cases h47 : x1 = (235 : Int32)
                          ·
                            refine sw_l (k := (235 : Int32)) (tgt := 316) hx hb d_Mdl_transfer_8 h47 rfl ?_
                            refine lv_aload_n hx hb d_Mdl_transfer_316 rfl (lv_at hl 1 rfl) ?_
                            refine lv_aload_n hx hb d_Mdl_transfer_317 rfl (lv_at hl 1 rfl) ?_
                            refine gt_Mdl X hP 1 (by decide) (v := .int (S.1 0)) q_564 rfl d_Mdl_transfer_318 ?_
                            refine lv_bipush (v := (8 : Int32)) hx hb d_Mdl_transfer_321 (by decide) ?_
                            refine lv_ishr hx hb d_Mdl_transfer_323 ?_
                            refine lv_aload_n hx hb d_Mdl_transfer_324 rfl (lv_at hl 1 rfl) ?_
                            refine gt_Mdl X hP 1 (by decide) (v := .int (S.1 0)) q_564 rfl d_Mdl_transfer_325 ?_
                            refine lv_sipush (v := (255 : Int32)) hx hb d_Mdl_transfer_328 (by decide) ?_
                            refine lv_iand hx hb d_Mdl_transfer_331 ?_
                            refine lv_bipush (v := (8 : Int32)) hx hb d_Mdl_transfer_332 (by decide) ?_
                            refine lv_ishl hx hb d_Mdl_transfer_334 ?_
                            refine lv_ior hx hb d_Mdl_transfer_335 ?_
                            refine pt_Mdl X hP hS 1 (by decide) (v := (((S.1 0) >>> ((8 : Int32) &&& 31)) ||| (((S.1 0) &&& (255 : Int32)) <<< ((8 : Int32) &&& 31)))) (S1 := (pr S 0 ((((S.1 0) >>> ((8 : Int32) &&& 31)) ||| (((S.1 0) &&& (255 : Int32)) <<< ((8 : Int32) &&& 31)))))) q_564 rfl rfl rfl rfl d_Mdl_transfer_336 (fun H locs hP hS => ?_)
                            refine lv_aload_n hx hb d_Mdl_transfer_339 rfl (lv_at hl 1 rfl) ?_
                            refine lv_aload_n hx hb d_Mdl_transfer_340 rfl (lv_at hl 1 rfl) ?_
                            refine gt_Mdl X hP 1 (by decide) (v := .int ((((S.1 0) >>> ((8 : Int32) &&& 31)) ||| (((S.1 0) &&& (255 : Int32)) <<< ((8 : Int32) &&& 31))))) q_564 rfl d_Mdl_transfer_341 ?_
                            refine lv_iconst (v := (1 : Int32)) hx hb d_Mdl_transfer_344 (by decide) ?_
                            refine kv_vs (rest := []) X hP hS (c_Mdl_result l D cB cI a bz ha (pr S 0 ((((S.1 0) >>> ((8 : Int32) &&& 31)) ||| (((S.1 0) &&& (255 : Int32)) <<< ((8 : Int32) &&& 31))))) (((S.1 0) >>> ((8 : Int32) &&& 31)) ||| (((S.1 0) &&& (255 : Int32)) <<< ((8 : Int32) &&& 31))) (1 : Int32)) (kw_Mdl_result hts q_749 ⟨Nat.le_of_ble_eq_true rfl, Nat.le_of_ble_eq_true rfl⟩) 0 rfl rfl rfl hl.1 rfl (lv_room (Nat.le_of_ble_eq_true rfl)) d_Mdl_transfer_345 (fun r48 S49 H locs e50 hP hS => ?_)
                            refine lv_istore_n hx hb d_Mdl_transfer_348 rfl hl (Nat.le_of_ble_eq_true rfl) rfl (fun ls hl => ?_)
                            have hl : lv_has ls 4 [(3, .int (r48)), (2, .int ((f_Mdl_is S (16 : Int32)))), (0, .ref (a 0)), (1, .int (x1))] := hl
                            refine lv_goto (tgt := 354) hx hb d_Mdl_transfer_349 rfl ?_
                            refine lv_iconst (v := (1 : Int32)) hx hb d_Mdl_transfer_354 (by decide) ?_
                            exact rt_z X hr hk hP hS (by decide) (by rw [f_Mdl_transfer, if_neg h1, if_neg h2, if_neg h6, if_neg h10, if_neg h14, if_neg h20, if_neg h26, if_neg h27, if_neg h31, if_neg h35, if_neg h39, if_neg h43, if_pos h47, bn_eq e50]) d_Mdl_transfer_355
                          ·
                            refine sn_l (tgt := 352) hx hb d_Mdl_transfer_8 rfl ⟨lv_neT h1 rfl, lv_neT h2 rfl, lv_neT h6 rfl, lv_neT h10 rfl, lv_neT h14 rfl, lv_neT h20 rfl, lv_neT h26 rfl, lv_neT h27 rfl, lv_neT h31 rfl, lv_neT h35 rfl, lv_neT h39 rfl, lv_neT h43 rfl, lv_neT h47 rfl, trivial⟩ rfl ?_
                            refine lv_iconst (v := (0 : Int32)) hx hb d_Mdl_transfer_352 (by decide) ?_
                            exact rt_z X hr hk hP hS (by decide) (by rw [f_Mdl_transfer, if_neg h1, if_neg h2, if_neg h6, if_neg h10, if_neg h14, if_neg h20, if_neg h26, if_neg h27, if_neg h31, if_neg h35, if_neg h39, if_neg h43, if_neg h47]) d_Mdl_transfer_353
set_option maxHeartbeats 4000000 in
set_option maxRecDepth 100000 in
theorem c_Mdl_stack (l : Launch) (D : va_G) (cB cI : ClassId) (a : Nat → Nat) (bz : Nat) (ha : ap a 3) (S : Sc) (x1 : Int32) : MI l y_Mdl_stack b_Mdl_stack 2 (some .boolean) rm_Mdl_stack [.ref (a 0), .int x1] D cB cI (wdT cI a) (ow a 3) bz S (f_Mdl_stack S x1) := by
  refine met_in R_Mdl (by decide) rfl (Nat.le_of_ble_eq_true rfl) (wdT_D ha cI) ?_
  intro p e s m below meth c ls X hr hk hl hP hS
  have hx := X.1.1
  have hb := X.1.2.1
  have hown := X.1.2.2.2.1
  have hts := X.1.2.2.2.2
  have hl : lv_has ls 2 [(0, .ref (a 0)), (1, .int x1)] := hl
  refine lv_iload_n hx hb d_Mdl_stack_0 rfl (lv_at hl 1 rfl) ?_
  by_cases h1 : x1 = (8 : Int32)
  ·
    refine sw_l (k := (8 : Int32)) (tgt := 175) hx hb d_Mdl_stack_1 h1 rfl ?_
    refine lv_aload_n hx hb d_Mdl_stack_175 rfl (lv_at hl 0 rfl) ?_
    refine lv_aload_n hx hb d_Mdl_stack_176 rfl (lv_at hl 0 rfl) ?_
    refine gt_Mdl X hP 7 (by decide) (v := .int (S.1 6)) q_570 rfl d_Mdl_stack_177 ?_
    refine kv_s (rest := []) X hP hS (c_Mdl_push l D cB cI a bz ha S (S.1 6)) (kw_Mdl_push hts q_663 ⟨Nat.le_of_ble_eq_true rfl, Nat.le_of_ble_eq_true rfl⟩) 0 rfl rfl rfl hl.1 rfl (lv_room (Nat.le_of_ble_eq_true rfl)) d_Mdl_stack_180 (fun S2 H locs e3 hP hS => ?_)
    refine lv_goto (tgt := 318) hx hb d_Mdl_stack_183 rfl ?_
    refine lv_iconst (v := (1 : Int32)) hx hb d_Mdl_stack_318 (by decide) ?_
    exact rt_z X hr hk hP hS (by decide) (by rw [f_Mdl_stack, if_pos h1, bs_eq e3]) d_Mdl_stack_319
  ·
    by_cases h4 : x1 = (11 : Int32)
    ·
      refine sw_l (k := (11 : Int32)) (tgt := 208) hx hb d_Mdl_stack_1 h4 rfl ?_
      refine lv_aload_n hx hb d_Mdl_stack_208 rfl (lv_at hl 0 rfl) ?_
      refine lv_aload_n hx hb d_Mdl_stack_209 rfl (lv_at hl 0 rfl) ?_
      refine gt_Mdl X hP 5 (by decide) (v := .int (S.1 4)) q_568 rfl d_Mdl_stack_210 ?_
      refine kv_s (rest := []) X hP hS (c_Mdl_pushWord l D cB cI a bz ha S (S.1 4)) (kw_Mdl_pushWord hts q_678 ⟨Nat.le_of_ble_eq_true rfl, Nat.le_of_ble_eq_true rfl⟩) 0 rfl rfl rfl hl.1 rfl (lv_room (Nat.le_of_ble_eq_true rfl)) d_Mdl_stack_213 (fun S5 H locs e6 hP hS => ?_)
      refine lv_goto (tgt := 318) hx hb d_Mdl_stack_216 rfl ?_
      refine lv_iconst (v := (1 : Int32)) hx hb d_Mdl_stack_318 (by decide) ?_
      exact rt_z X hr hk hP hS (by decide) (by rw [f_Mdl_stack, if_neg h1, if_pos h4, bs_eq e6]) d_Mdl_stack_319
    ·
      by_cases h7 : x1 = (40 : Int32)
      ·
        refine sw_l (k := (40 : Int32)) (tgt := 305) hx hb d_Mdl_stack_1 h7 rfl ?_
        refine lv_aload_n hx hb d_Mdl_stack_305 rfl (lv_at hl 0 rfl) ?_
        refine lv_aload_n hx hb d_Mdl_stack_306 rfl (lv_at hl 0 rfl) ?_
        refine kv_vs (rest := [.ref (a 0)]) X hP hS (c_Mdl_pull l D cB cI a bz ha S) (kw_Mdl_pull hts q_806 ⟨Nat.le_of_ble_eq_true rfl, Nat.le_of_ble_eq_true rfl⟩) 0 rfl rfl rfl hl.1 rfl (lv_room (Nat.le_of_ble_eq_true rfl)) d_Mdl_stack_307 (fun r8 S9 H locs e10 hP hS => ?_)
        refine kv_s (rest := []) X hP hS (c_Mdl_setFlags l D cB cI a bz ha S9 r8) (kw_Mdl_setFlags hts q_643 ⟨Nat.le_of_ble_eq_true rfl, Nat.le_of_ble_eq_true rfl⟩) 0 rfl rfl rfl hl.1 rfl (lv_room (Nat.le_of_ble_eq_true rfl)) d_Mdl_stack_310 (fun S11 H locs e12 hP hS => ?_)
        refine lv_goto (tgt := 318) hx hb d_Mdl_stack_313 rfl ?_
        refine lv_iconst (v := (1 : Int32)) hx hb d_Mdl_stack_318 (by decide) ?_
        exact rt_z X hr hk hP hS (by decide) (by rw [f_Mdl_stack, if_neg h1, if_neg h4, if_pos h7, bn_eq e10, bs_eq e12]) d_Mdl_stack_319
      ·
        by_cases h13 : x1 = (43 : Int32)
        ·
          refine sw_l (k := (43 : Int32)) (tgt := 281) hx hb d_Mdl_stack_1 h13 rfl ?_
          refine lv_aload_n hx hb d_Mdl_stack_281 rfl (lv_at hl 0 rfl) ?_
          refine lv_aload_n hx hb d_Mdl_stack_282 rfl (lv_at hl 0 rfl) ?_
          refine lv_iconst (v := (0 : Int32)) hx hb d_Mdl_stack_283 (by decide) ?_
          refine kv_vs (rest := [.ref (a 0)]) X hP hS (c_Mdl_pullOf l D cB cI a bz ha S (0 : Int32)) (kw_Mdl_pullOf hts q_802 ⟨Nat.le_of_ble_eq_true rfl, Nat.le_of_ble_eq_true rfl⟩) 0 rfl rfl rfl hl.1 rfl (lv_room (Nat.le_of_ble_eq_true rfl)) d_Mdl_stack_284 (fun r14 S15 H locs e16 hP hS => ?_)
          refine pt_Mdl X hP hS 5 (by decide) (v := r14) (S1 := (pr S15 4 (r14))) q_568 rfl rfl rfl rfl d_Mdl_stack_287 (fun H locs hP hS => ?_)
          refine lv_goto (tgt := 318) hx hb d_Mdl_stack_290 rfl ?_
          refine lv_iconst (v := (1 : Int32)) hx hb d_Mdl_stack_318 (by decide) ?_
          exact rt_z X hr hk hP hS (by decide) (by rw [f_Mdl_stack, if_neg h1, if_neg h4, if_neg h7, if_pos h13, bn_eq e16]) d_Mdl_stack_319
        ·
          by_cases h17 : x1 = (72 : Int32)
          ·
            refine sw_l (k := (72 : Int32)) (tgt := 124) hx hb d_Mdl_stack_1 h17 rfl ?_
            refine lv_aload_n hx hb d_Mdl_stack_124 rfl (lv_at hl 0 rfl) ?_
            refine lv_aload_n hx hb d_Mdl_stack_125 rfl (lv_at hl 0 rfl) ?_
            refine kv_v (rest := [.ref (a 0)]) X hP hS (c_Mdl_accumulator l D cB cI a bz ha S) (kw_Mdl_accumulator hts q_728 ⟨Nat.le_of_ble_eq_true rfl, Nat.le_of_ble_eq_true rfl⟩) 0 rfl rfl rfl hl.1 rfl (lv_room (Nat.le_of_ble_eq_true rfl)) d_Mdl_stack_126 (fun H locs hP hS => ?_)
            refine lv_aload_n hx hb d_Mdl_stack_129 rfl (lv_at hl 0 rfl) ?_
            refine lv_bipush (v := (32 : Int32)) hx hb d_Mdl_stack_130 (by decide) ?_
            refine kv_v (rest := [.int ((f_Mdl_accumulator S)), .ref (a 0)]) X hP hS (c_Mdl_is l D cB cI a bz ha S (32 : Int32)) (kw_Mdl_is hts q_635 ⟨Nat.le_of_ble_eq_true rfl, Nat.le_of_ble_eq_true rfl⟩) 0 rfl rfl rfl hl.1 rfl (lv_room (Nat.le_of_ble_eq_true rfl)) d_Mdl_stack_132 (fun H locs hP hS => ?_)
            refine kv_s (rest := []) X hP hS (c_Mdl_pushOf l D cB cI a bz ha S (f_Mdl_accumulator S) (f_Mdl_is S (32 : Int32))) (kw_Mdl_pushOf hts q_798 ⟨Nat.le_of_ble_eq_true rfl, Nat.le_of_ble_eq_true rfl⟩) 0 rfl rfl rfl hl.1 rfl (lv_room (Nat.le_of_ble_eq_true rfl)) d_Mdl_stack_135 (fun S18 H locs e19 hP hS => ?_)
            refine lv_goto (tgt := 318) hx hb d_Mdl_stack_138 rfl ?_
            refine lv_iconst (v := (1 : Int32)) hx hb d_Mdl_stack_318 (by decide) ?_
            exact rt_z X hr hk hP hS (by decide) (by rw [f_Mdl_stack, if_neg h1, if_neg h4, if_neg h7, if_neg h13, if_pos h17, bs_eq e19]) d_Mdl_stack_319
          ·
            by_cases h20 : x1 = (75 : Int32)
            ·
              refine sw_l (k := (75 : Int32)) (tgt := 197) hx hb d_Mdl_stack_1 h20 rfl ?_
              refine lv_aload_n hx hb d_Mdl_stack_197 rfl (lv_at hl 0 rfl) ?_
              refine lv_aload_n hx hb d_Mdl_stack_198 rfl (lv_at hl 0 rfl) ?_
              refine gt_Mdl X hP 8 (by decide) (v := .int (S.1 7)) q_571 rfl d_Mdl_stack_199 ?_
              refine kv_s (rest := []) X hP hS (c_Mdl_push l D cB cI a bz ha S (S.1 7)) (kw_Mdl_push hts q_663 ⟨Nat.le_of_ble_eq_true rfl, Nat.le_of_ble_eq_true rfl⟩) 0 rfl rfl rfl hl.1 rfl (lv_room (Nat.le_of_ble_eq_true rfl)) d_Mdl_stack_202 (fun S21 H locs e22 hP hS => ?_)
              refine lv_goto (tgt := 318) hx hb d_Mdl_stack_205 rfl ?_
              refine lv_iconst (v := (1 : Int32)) hx hb d_Mdl_stack_318 (by decide) ?_
              exact rt_z X hr hk hP hS (by decide) (by rw [f_Mdl_stack, if_neg h1, if_neg h4, if_neg h7, if_neg h13, if_neg h17, if_pos h20, bs_eq e22]) d_Mdl_stack_319
            ·
              by_cases h23 : x1 = (90 : Int32)
              ·
                refine sw_l (k := (90 : Int32)) (tgt := 158) hx hb d_Mdl_stack_1 h23 rfl ?_
                refine lv_aload_n hx hb d_Mdl_stack_158 rfl (lv_at hl 0 rfl) ?_
                refine lv_aload_n hx hb d_Mdl_stack_159 rfl (lv_at hl 0 rfl) ?_
                refine gt_Mdl X hP 3 (by decide) (v := .int (S.1 2)) q_566 rfl d_Mdl_stack_160 ?_
                refine lv_aload_n hx hb d_Mdl_stack_163 rfl (lv_at hl 0 rfl) ?_
                refine lv_bipush (v := (16 : Int32)) hx hb d_Mdl_stack_164 (by decide) ?_
                refine kv_v (rest := [.int (S.1 2), .ref (a 0)]) X hP hS (c_Mdl_is l D cB cI a bz ha S (16 : Int32)) (kw_Mdl_is hts q_635 ⟨Nat.le_of_ble_eq_true rfl, Nat.le_of_ble_eq_true rfl⟩) 0 rfl rfl rfl hl.1 rfl (lv_room (Nat.le_of_ble_eq_true rfl)) d_Mdl_stack_166 (fun H locs hP hS => ?_)
                refine kv_s (rest := []) X hP hS (c_Mdl_pushOf l D cB cI a bz ha S (S.1 2) (f_Mdl_is S (16 : Int32))) (kw_Mdl_pushOf hts q_798 ⟨Nat.le_of_ble_eq_true rfl, Nat.le_of_ble_eq_true rfl⟩) 0 rfl rfl rfl hl.1 rfl (lv_room (Nat.le_of_ble_eq_true rfl)) d_Mdl_stack_169 (fun S24 H locs e25 hP hS => ?_)
                refine lv_goto (tgt := 318) hx hb d_Mdl_stack_172 rfl ?_
                refine lv_iconst (v := (1 : Int32)) hx hb d_Mdl_stack_318 (by decide) ?_
                exact rt_z X hr hk hP hS (by decide) (by rw [f_Mdl_stack, if_neg h1, if_neg h4, if_neg h7, if_neg h13, if_neg h17, if_neg h20, if_pos h23, bs_eq e25]) d_Mdl_stack_319
              ·
                by_cases h26 : x1 = (104 : Int32)
                ·
                  refine sw_l (k := (104 : Int32)) (tgt := 230) hx hb d_Mdl_stack_1 h26 rfl ?_
                  refine lv_aload_n hx hb d_Mdl_stack_230 rfl (lv_at hl 0 rfl) ?_
                  refine lv_aload_n hx hb d_Mdl_stack_231 rfl (lv_at hl 0 rfl) ?_
                  refine lv_aload_n hx hb d_Mdl_stack_232 rfl (lv_at hl 0 rfl) ?_
                  refine lv_bipush (v := (32 : Int32)) hx hb d_Mdl_stack_233 (by decide) ?_
                  refine kv_v (rest := [.ref (a 0), .ref (a 0)]) X hP hS (c_Mdl_is l D cB cI a bz ha S (32 : Int32)) (kw_Mdl_is hts q_635 ⟨Nat.le_of_ble_eq_true rfl, Nat.le_of_ble_eq_true rfl⟩) 0 rfl rfl rfl hl.1 rfl (lv_room (Nat.le_of_ble_eq_true rfl)) d_Mdl_stack_235 (fun H locs hP hS => ?_)
                  refine kv_vs (rest := [.ref (a 0)]) X hP hS (c_Mdl_pullOf l D cB cI a bz ha S (f_Mdl_is S (32 : Int32))) (kw_Mdl_pullOf hts q_802 ⟨Nat.le_of_ble_eq_true rfl, Nat.le_of_ble_eq_true rfl⟩) 0 rfl rfl rfl hl.1 rfl (lv_room (Nat.le_of_ble_eq_true rfl)) d_Mdl_stack_238 (fun r27 S28 H locs e29 hP hS => ?_)
                  refine kv_s (rest := []) X hP hS (c_Mdl_setAccumulator l D cB cI a bz ha S28 r27) (kw_Mdl_setAccumulator hts q_753 ⟨Nat.le_of_ble_eq_true rfl, Nat.le_of_ble_eq_true rfl⟩) 0 rfl rfl rfl hl.1 rfl (lv_room (Nat.le_of_ble_eq_true rfl)) d_Mdl_stack_241 (fun S30 H locs e31 hP hS => ?_)
                  refine lv_goto (tgt := 318) hx hb d_Mdl_stack_244 rfl ?_
                  refine lv_iconst (v := (1 : Int32)) hx hb d_Mdl_stack_318 (by decide) ?_
                  exact rt_z X hr hk hP hS (by decide) (by rw [f_Mdl_stack, if_neg h1, if_neg h4, if_neg h7, if_neg h13, if_neg h17, if_neg h20, if_neg h23, if_pos h26, bn_eq e29, bs_eq e31]) d_Mdl_stack_319
                ·
                  by_cases h32 : x1 = (122 : Int32)
                  ·
                    refine sw_l (k := (122 : Int32)) (tgt := 264) hx hb d_Mdl_stack_1 h32 rfl ?_
                    refine lv_aload_n hx hb d_Mdl_stack_264 rfl (lv_at hl 0 rfl) ?_
                    refine lv_aload_n hx hb d_Mdl_stack_265 rfl (lv_at hl 0 rfl) ?_
                    refine lv_aload_n hx hb d_Mdl_stack_266 rfl (lv_at hl 0 rfl) ?_
                    refine lv_bipush (v := (16 : Int32)) hx hb d_Mdl_stack_267 (by decide) ?_
                    refine kv_v (rest := [.ref (a 0), .ref (a 0)]) X hP hS (c_Mdl_is l D cB cI a bz ha S (16 : Int32)) (kw_Mdl_is hts q_635 ⟨Nat.le_of_ble_eq_true rfl, Nat.le_of_ble_eq_true rfl⟩) 0 rfl rfl rfl hl.1 rfl (lv_room (Nat.le_of_ble_eq_true rfl)) d_Mdl_stack_269 (fun H locs hP hS => ?_)
                    refine kv_vs (rest := [.ref (a 0)]) X hP hS (c_Mdl_pullOf l D cB cI a bz ha S (f_Mdl_is S (16 : Int32))) (kw_Mdl_pullOf hts q_802 ⟨Nat.le_of_ble_eq_true rfl, Nat.le_of_ble_eq_true rfl⟩) 0 rfl rfl rfl hl.1 rfl (lv_room (Nat.le_of_ble_eq_true rfl)) d_Mdl_stack_272 (fun r33 S34 H locs e35 hP hS => ?_)
                    refine pt_Mdl X hP hS 3 (by decide) (v := r33) (S1 := (pr S34 2 (r33))) q_566 rfl rfl rfl rfl d_Mdl_stack_275 (fun H locs hP hS => ?_)
                    refine lv_goto (tgt := 318) hx hb d_Mdl_stack_278 rfl ?_
                    refine lv_iconst (v := (1 : Int32)) hx hb d_Mdl_stack_318 (by decide) ?_
                    exact rt_z X hr hk hP hS (by decide) (by rw [f_Mdl_stack, if_neg h1, if_neg h4, if_neg h7, if_neg h13, if_neg h17, if_neg h20, if_neg h23, if_neg h26, if_pos h32, bn_eq e35]) d_Mdl_stack_319
                  ·
                    by_cases h36 : x1 = (139 : Int32)
                    ·
                      refine sw_l (k := (139 : Int32)) (tgt := 186) hx hb d_Mdl_stack_1 h36 rfl ?_
                      refine lv_aload_n hx hb d_Mdl_stack_186 rfl (lv_at hl 0 rfl) ?_
                      refine lv_aload_n hx hb d_Mdl_stack_187 rfl (lv_at hl 0 rfl) ?_
                      refine gt_Mdl X hP 6 (by decide) (v := .int (S.1 5)) q_569 rfl d_Mdl_stack_188 ?_
                      refine kv_s (rest := []) X hP hS (c_Mdl_push l D cB cI a bz ha S (S.1 5)) (kw_Mdl_push hts q_663 ⟨Nat.le_of_ble_eq_true rfl, Nat.le_of_ble_eq_true rfl⟩) 0 rfl rfl rfl hl.1 rfl (lv_room (Nat.le_of_ble_eq_true rfl)) d_Mdl_stack_191 (fun S37 H locs e38 hP hS => ?_)
                      refine lv_goto (tgt := 318) hx hb d_Mdl_stack_194 rfl ?_
                      refine lv_iconst (v := (1 : Int32)) hx hb d_Mdl_stack_318 (by decide) ?_
                      exact rt_z X hr hk hP hS (by decide) (by rw [f_Mdl_stack, if_neg h1, if_neg h4, if_neg h7, if_neg h13, if_neg h17, if_neg h20, if_neg h23, if_neg h26, if_neg h32, if_pos h36, bs_eq e38]) d_Mdl_stack_319
                    ·
                      by_cases h39 : x1 = (171 : Int32)
                      ·
                        refine sw_l (k := (171 : Int32)) (tgt := 293) hx hb d_Mdl_stack_1 h39 rfl ?_
                        refine lv_aload_n hx hb d_Mdl_stack_293 rfl (lv_at hl 0 rfl) ?_
                        refine lv_aload_n hx hb d_Mdl_stack_294 rfl (lv_at hl 0 rfl) ?_
                        refine lv_iconst (v := (1 : Int32)) hx hb d_Mdl_stack_295 (by decide) ?_
                        refine kv_vs (rest := [.ref (a 0)]) X hP hS (c_Mdl_pullOf l D cB cI a bz ha S (1 : Int32)) (kw_Mdl_pullOf hts q_802 ⟨Nat.le_of_ble_eq_true rfl, Nat.le_of_ble_eq_true rfl⟩) 0 rfl rfl rfl hl.1 rfl (lv_room (Nat.le_of_ble_eq_true rfl)) d_Mdl_stack_296 (fun r40 S41 H locs e42 hP hS => ?_)
                        refine pt_Mdl X hP hS 6 (by decide) (v := r40) (S1 := (pr S41 5 (r40))) q_569 rfl rfl rfl rfl d_Mdl_stack_299 (fun H locs hP hS => ?_)
                        refine lv_goto (tgt := 318) hx hb d_Mdl_stack_302 rfl ?_
                        refine lv_iconst (v := (1 : Int32)) hx hb d_Mdl_stack_318 (by decide) ?_
                        exact rt_z X hr hk hP hS (by decide) (by rw [f_Mdl_stack, if_neg h1, if_neg h4, if_neg h7, if_neg h13, if_neg h17, if_neg h20, if_neg h23, if_neg h26, if_neg h32, if_neg h36, if_pos h39, bn_eq e42]) d_Mdl_stack_319
                      ·
                        by_cases h43 : x1 = (218 : Int32)
                        ·
                          refine sw_l (k := (218 : Int32)) (tgt := 141) hx hb d_Mdl_stack_1 h43 rfl ?_
                          refine lv_aload_n hx hb d_Mdl_stack_141 rfl (lv_at hl 0 rfl) ?_
                          refine lv_aload_n hx hb d_Mdl_stack_142 rfl (lv_at hl 0 rfl) ?_
                          refine gt_Mdl X hP 2 (by decide) (v := .int (S.1 1)) q_565 rfl d_Mdl_stack_143 ?_
                          refine lv_aload_n hx hb d_Mdl_stack_146 rfl (lv_at hl 0 rfl) ?_
                          refine lv_bipush (v := (16 : Int32)) hx hb d_Mdl_stack_147 (by decide) ?_
                          refine kv_v (rest := [.int (S.1 1), .ref (a 0)]) X hP hS (c_Mdl_is l D cB cI a bz ha S (16 : Int32)) (kw_Mdl_is hts q_635 ⟨Nat.le_of_ble_eq_true rfl, Nat.le_of_ble_eq_true rfl⟩) 0 rfl rfl rfl hl.1 rfl (lv_room (Nat.le_of_ble_eq_true rfl)) d_Mdl_stack_149 (fun H locs hP hS => ?_)
                          refine kv_s (rest := []) X hP hS (c_Mdl_pushOf l D cB cI a bz ha S (S.1 1) (f_Mdl_is S (16 : Int32))) (kw_Mdl_pushOf hts q_798 ⟨Nat.le_of_ble_eq_true rfl, Nat.le_of_ble_eq_true rfl⟩) 0 rfl rfl rfl hl.1 rfl (lv_room (Nat.le_of_ble_eq_true rfl)) d_Mdl_stack_152 (fun S44 H locs e45 hP hS => ?_)
                          refine lv_goto (tgt := 318) hx hb d_Mdl_stack_155 rfl ?_
                          refine lv_iconst (v := (1 : Int32)) hx hb d_Mdl_stack_318 (by decide) ?_
                          exact rt_z X hr hk hP hS (by decide) (by rw [f_Mdl_stack, if_neg h1, if_neg h4, if_neg h7, if_neg h13, if_neg h17, if_neg h20, if_neg h23, if_neg h26, if_neg h32, if_neg h36, if_neg h39, if_pos h43, bs_eq e45]) d_Mdl_stack_319
                        ·
                          by_cases h46 : x1 = (244 : Int32)
                          ·
                            refine sw_l (k := (244 : Int32)) (tgt := 219) hx hb d_Mdl_stack_1 h46 rfl ?_
                            refine lv_aload_n hx hb d_Mdl_stack_219 rfl (lv_at hl 0 rfl) ?_
                            refine lv_aload_n hx hb d_Mdl_stack_220 rfl (lv_at hl 0 rfl) ?_
                            refine kv_vs (rest := [.ref (a 0)]) X hP hS (c_Mdl_nextWord l D cB cI a bz ha S) (kw_Mdl_nextWord hts q_716 ⟨Nat.le_of_ble_eq_true rfl, Nat.le_of_ble_eq_true rfl⟩) 0 rfl rfl rfl hl.1 rfl (lv_room (Nat.le_of_ble_eq_true rfl)) d_Mdl_stack_221 (fun r47 S48 H locs e49 hP hS => ?_)
                            refine kv_s (rest := []) X hP hS (c_Mdl_pushWord l D cB cI a bz ha S48 r47) (kw_Mdl_pushWord hts q_678 ⟨Nat.le_of_ble_eq_true rfl, Nat.le_of_ble_eq_true rfl⟩) 0 rfl rfl rfl hl.1 rfl (lv_room (Nat.le_of_ble_eq_true rfl)) d_Mdl_stack_224 (fun S50 H locs e51 hP hS => ?_)
                            refine lv_goto (tgt := 318) hx hb d_Mdl_stack_227 rfl ?_
                            refine lv_iconst (v := (1 : Int32)) hx hb d_Mdl_stack_318 (by decide) ?_
                            exact rt_z X hr hk hP hS (by decide) (by rw [f_Mdl_stack, if_neg h1, if_neg h4, if_neg h7, if_neg h13, if_neg h17, if_neg h20, if_neg h23, if_neg h26, if_neg h32, if_neg h36, if_neg h39, if_neg h43, if_pos h46, bn_eq e49, bs_eq e51]) d_Mdl_stack_319
                          ·
                            by_cases h52 : x1 = (250 : Int32)
                            ·
                              refine sw_l (k := (250 : Int32)) (tgt := 247) hx hb d_Mdl_stack_1 h52 rfl ?_
                              refine lv_aload_n hx hb d_Mdl_stack_247 rfl (lv_at hl 0 rfl) ?_
                              refine lv_aload_n hx hb d_Mdl_stack_248 rfl (lv_at hl 0 rfl) ?_
                              refine lv_aload_n hx hb d_Mdl_stack_249 rfl (lv_at hl 0 rfl) ?_
                              refine lv_bipush (v := (16 : Int32)) hx hb d_Mdl_stack_250 (by decide) ?_
                              refine kv_v (rest := [.ref (a 0), .ref (a 0)]) X hP hS (c_Mdl_is l D cB cI a bz ha S (16 : Int32)) (kw_Mdl_is hts q_635 ⟨Nat.le_of_ble_eq_true rfl, Nat.le_of_ble_eq_true rfl⟩) 0 rfl rfl rfl hl.1 rfl (lv_room (Nat.le_of_ble_eq_true rfl)) d_Mdl_stack_252 (fun H locs hP hS => ?_)
                              refine kv_vs (rest := [.ref (a 0)]) X hP hS (c_Mdl_pullOf l D cB cI a bz ha S (f_Mdl_is S (16 : Int32))) (kw_Mdl_pullOf hts q_802 ⟨Nat.le_of_ble_eq_true rfl, Nat.le_of_ble_eq_true rfl⟩) 0 rfl rfl rfl hl.1 rfl (lv_room (Nat.le_of_ble_eq_true rfl)) d_Mdl_stack_255 (fun r53 S54 H locs e55 hP hS => ?_)
                              refine pt_Mdl X hP hS 2 (by decide) (v := r53) (S1 := (pr S54 1 (r53))) q_565 rfl rfl rfl rfl d_Mdl_stack_258 (fun H locs hP hS => ?_)
                              refine lv_goto (tgt := 318) hx hb d_Mdl_stack_261 rfl ?_
                              refine lv_iconst (v := (1 : Int32)) hx hb d_Mdl_stack_318 (by decide) ?_
                              exact rt_z X hr hk hP hS (by decide) (by rw [f_Mdl_stack, if_neg h1, if_neg h4, if_neg h7, if_neg h13, if_neg h17, if_neg h20, if_neg h23, if_neg h26, if_neg h32, if_neg h36, if_neg h39, if_neg h43, if_neg h46, if_pos h52, bn_eq e55]) d_Mdl_stack_319
                            ·
                              refine sn_l (tgt := 316) hx hb d_Mdl_stack_1 rfl ⟨lv_neT h1 rfl, lv_neT h4 rfl, lv_neT h7 rfl, lv_neT h13 rfl, lv_neT h17 rfl, lv_neT h20 rfl, lv_neT h23 rfl, lv_neT h26 rfl, lv_neT h32 rfl, lv_neT h36 rfl, lv_neT h39 rfl, lv_neT h43 rfl, lv_neT h46 rfl, lv_neT h52 rfl, trivial⟩ rfl ?_
                              refine lv_iconst (v := (0 : Int32)) hx hb d_Mdl_stack_316 (by decide) ?_
                              exact rt_z X hr hk hP hS (by decide) (by rw [f_Mdl_stack, if_neg h1, if_neg h4, if_neg h7, if_neg h13, if_neg h17, if_neg h20, if_neg h23, if_neg h26, if_neg h32, if_neg h36, if_neg h39, if_neg h43, if_neg h46, if_neg h52]) d_Mdl_stack_317
set_option maxHeartbeats 4000000 in
set_option maxRecDepth 100000 in
theorem c_Mdl_longJump (l : Launch) (D : va_G) (cB cI : ClassId) (a : Nat → Nat) (bz : Nat) (ha : ap a 3) (S : Sc) (x1 : Int32) : MI l y_Mdl_longJump b_Mdl_longJump 3 (some .boolean) rm_Mdl_longJump [.ref (a 0), .int x1] D cB cI (wdT cI a) (ow a 3) bz S (f_Mdl_longJump S x1) := by
  refine met_in R_Mdl (by decide) rfl (Nat.le_of_ble_eq_true rfl) (wdT_D ha cI) ?_
  intro p e s m below meth c ls X hr hk hl hP hS
  have hx := X.1.1
  have hb := X.1.2.1
  have hown := X.1.2.2.2.1
  have hts := X.1.2.2.2.2
  have hl : lv_has ls 3 [(0, .ref (a 0)), (1, .int x1)] := hl
  refine lv_iload_n hx hb d_Mdl_longJump_0 rfl (lv_at hl 1 rfl) ?_
  refine lv_bipush (v := (92 : Int32)) hx hb d_Mdl_longJump_1 (by decide) ?_
  refine lv_icmp_ne (tgt := 30) hx hb d_Mdl_longJump_3 rfl (fun h1 => ?_) (fun h1 => ?_)
  ·
    refine lv_iload_n hx hb d_Mdl_longJump_30 rfl (lv_at hl 1 rfl) ?_
    refine lv_bipush (v := (34 : Int32)) hx hb d_Mdl_longJump_31 (by decide) ?_
    refine lv_icmp_ne (tgt := 65) hx hb d_Mdl_longJump_33 rfl (fun h2 => ?_) (fun h2 => ?_)
    ·
      refine lv_iload_n hx hb d_Mdl_longJump_65 rfl (lv_at hl 1 rfl) ?_
      refine lv_bipush (v := (107 : Int32)) hx hb d_Mdl_longJump_66 (by decide) ?_
      refine lv_icmp_ne (tgt := 95) hx hb d_Mdl_longJump_68 rfl (fun h3 => ?_) (fun h3 => ?_)
      ·
        refine lv_iload_n hx hb d_Mdl_longJump_95 rfl (lv_at hl 1 rfl) ?_
        refine lv_if_ne (tgt := 114) hx hb d_Mdl_longJump_96 rfl (fun h4 => ?_) (fun h4 => ?_)
        ·
          refine lv_iload_n hx hb d_Mdl_longJump_114 rfl (lv_at hl 1 rfl) ?_
          refine lv_bipush (v := (64 : Int32)) hx hb d_Mdl_longJump_115 (by decide) ?_
          refine lv_icmp_ne (tgt := 147) hx hb d_Mdl_longJump_117 rfl (fun h5 => ?_) (fun h5 => ?_)
          ·
            refine lv_iconst (v := (0 : Int32)) hx hb d_Mdl_longJump_147 (by decide) ?_
            exact rt_z X hr hk hP hS (by decide) (by rw [f_Mdl_longJump, if_neg h1, if_neg h2, if_neg h3, if_neg h4, if_neg h5]) d_Mdl_longJump_148
          ·
            refine lv_aload_n hx hb d_Mdl_longJump_120 rfl (lv_at hl 0 rfl) ?_
            refine lv_aload_n hx hb d_Mdl_longJump_121 rfl (lv_at hl 0 rfl) ?_
            refine kv_vs (rest := [.ref (a 0)]) X hP hS (c_Mdl_pull l D cB cI a bz ha S) (kw_Mdl_pull hts q_806 ⟨Nat.le_of_ble_eq_true rfl, Nat.le_of_ble_eq_true rfl⟩) 0 rfl rfl rfl hl.1 rfl (lv_room (Nat.le_of_ble_eq_true rfl)) d_Mdl_longJump_122 (fun r6 S7 H locs e8 hP hS => ?_)
            refine kv_s (rest := []) X hP hS (c_Mdl_setFlags l D cB cI a bz ha S7 r6) (kw_Mdl_setFlags hts q_643 ⟨Nat.le_of_ble_eq_true rfl, Nat.le_of_ble_eq_true rfl⟩) 0 rfl rfl rfl hl.1 rfl (lv_room (Nat.le_of_ble_eq_true rfl)) d_Mdl_longJump_125 (fun S9 H locs e10 hP hS => ?_)
            refine lv_aload_n hx hb d_Mdl_longJump_128 rfl (lv_at hl 0 rfl) ?_
            refine lv_aload_n hx hb d_Mdl_longJump_129 rfl (lv_at hl 0 rfl) ?_
            refine kv_vs (rest := [.ref (a 0)]) X hP hS (c_Mdl_pullWord l D cB cI a bz ha S9) (kw_Mdl_pullWord hts q_810 ⟨Nat.le_of_ble_eq_true rfl, Nat.le_of_ble_eq_true rfl⟩) 0 rfl rfl rfl hl.1 rfl (lv_room (Nat.le_of_ble_eq_true rfl)) d_Mdl_longJump_130 (fun r11 S12 H locs e13 hP hS => ?_)
            refine pt_Mdl X hP hS 9 (by decide) (v := r11) (S1 := (pr S12 8 (r11))) q_572 rfl rfl rfl rfl d_Mdl_longJump_133 (fun H locs hP hS => ?_)
            refine lv_aload_n hx hb d_Mdl_longJump_136 rfl (lv_at hl 0 rfl) ?_
            refine lv_aload_n hx hb d_Mdl_longJump_137 rfl (lv_at hl 0 rfl) ?_
            refine kv_vs (rest := [.ref (a 0)]) X hP hS (c_Mdl_pull l D cB cI a bz ha (pr S12 8 (r11))) (kw_Mdl_pull hts q_806 ⟨Nat.le_of_ble_eq_true rfl, Nat.le_of_ble_eq_true rfl⟩) 0 rfl rfl rfl hl.1 rfl (lv_room (Nat.le_of_ble_eq_true rfl)) d_Mdl_longJump_138 (fun r14 S15 H locs e16 hP hS => ?_)
            refine pt_Mdl X hP hS 8 (by decide) (v := r14) (S1 := (pr S15 7 (r14))) q_571 rfl rfl rfl rfl d_Mdl_longJump_141 (fun H locs hP hS => ?_)
            refine lv_goto (tgt := 149) hx hb d_Mdl_longJump_144 rfl ?_
            refine lv_iconst (v := (1 : Int32)) hx hb d_Mdl_longJump_149 (by decide) ?_
            exact rt_z X hr hk hP hS (by decide) (by rw [f_Mdl_longJump, if_neg h1, if_neg h2, if_neg h3, if_neg h4, if_pos h5, bn_eq e8, bs_eq e10, bn_eq e13, bn_eq e16]) d_Mdl_longJump_150
        ·
          refine lv_aload_n hx hb d_Mdl_longJump_99 rfl (lv_at hl 0 rfl) ?_
          refine kv_vs (rest := []) X hP hS (c_Mdl_next l D cB cI a bz ha S) (kw_Mdl_next hts q_700 ⟨Nat.le_of_ble_eq_true rfl, Nat.le_of_ble_eq_true rfl⟩) 0 rfl rfl rfl hl.1 rfl (lv_room (Nat.le_of_ble_eq_true rfl)) d_Mdl_longJump_100 (fun r17 S18 H locs e19 hP hS => ?_)
          refine lv_istore_n hx hb d_Mdl_longJump_103 rfl hl (Nat.le_of_ble_eq_true rfl) rfl (fun ls hl => ?_)
          have hl : lv_has ls 3 [(2, .int (r17)), (0, .ref (a 0)), (1, .int (x1))] := hl
          refine lv_aload_n hx hb d_Mdl_longJump_104 rfl (lv_at hl 1 rfl) ?_
          refine lv_sipush (v := (486 : Int32)) hx hb d_Mdl_longJump_105 (by decide) ?_
          refine kv_s (rest := []) X hP hS (c_Mdl_interruptFrom l D cB cI a bz ha S18 (486 : Int32)) (kw_Mdl_interruptFrom hts q_659 ⟨Nat.le_of_ble_eq_true rfl, Nat.le_of_ble_eq_true rfl⟩) 0 rfl rfl rfl hl.1 rfl (lv_room (Nat.le_of_ble_eq_true rfl)) d_Mdl_longJump_108 (fun S20 H locs e21 hP hS => ?_)
          refine lv_goto (tgt := 149) hx hb d_Mdl_longJump_111 rfl ?_
          refine lv_iconst (v := (1 : Int32)) hx hb d_Mdl_longJump_149 (by decide) ?_
          exact rt_z X hr hk hP hS (by decide) (by rw [f_Mdl_longJump, if_neg h1, if_neg h2, if_neg h3, if_pos h4, bn_eq e19, bs_eq e21]) d_Mdl_longJump_150
      ·
        refine lv_aload_n hx hb d_Mdl_longJump_71 rfl (lv_at hl 0 rfl) ?_
        refine lv_aload_n hx hb d_Mdl_longJump_72 rfl (lv_at hl 0 rfl) ?_
        refine kv_vs (rest := [.ref (a 0)]) X hP hS (c_Mdl_pullWord l D cB cI a bz ha S) (kw_Mdl_pullWord hts q_810 ⟨Nat.le_of_ble_eq_true rfl, Nat.le_of_ble_eq_true rfl⟩) 0 rfl rfl rfl hl.1 rfl (lv_room (Nat.le_of_ble_eq_true rfl)) d_Mdl_longJump_73 (fun r22 S23 H locs e24 hP hS => ?_)
        refine lv_iconst (v := (1 : Int32)) hx hb d_Mdl_longJump_76 (by decide) ?_
        refine lv_iadd hx hb d_Mdl_longJump_77 ?_
        refine lv_ldc (v := (65535 : Int32)) hx hb hown (hts _ q_630) d_Mdl_longJump_78 ?_
        refine lv_iand hx hb d_Mdl_longJump_80 ?_
        refine pt_Mdl X hP hS 9 (by decide) (v := ((r22 + (1 : Int32)) &&& (65535 : Int32))) (S1 := (pr S23 8 (((r22 + (1 : Int32)) &&& (65535 : Int32))))) q_572 rfl rfl rfl rfl d_Mdl_longJump_81 (fun H locs hP hS => ?_)
        refine lv_aload_n hx hb d_Mdl_longJump_84 rfl (lv_at hl 0 rfl) ?_
        refine lv_aload_n hx hb d_Mdl_longJump_85 rfl (lv_at hl 0 rfl) ?_
        refine kv_vs (rest := [.ref (a 0)]) X hP hS (c_Mdl_pull l D cB cI a bz ha (pr S23 8 (((r22 + (1 : Int32)) &&& (65535 : Int32))))) (kw_Mdl_pull hts q_806 ⟨Nat.le_of_ble_eq_true rfl, Nat.le_of_ble_eq_true rfl⟩) 0 rfl rfl rfl hl.1 rfl (lv_room (Nat.le_of_ble_eq_true rfl)) d_Mdl_longJump_86 (fun r25 S26 H locs e27 hP hS => ?_)
        refine pt_Mdl X hP hS 8 (by decide) (v := r25) (S1 := (pr S26 7 (r25))) q_571 rfl rfl rfl rfl d_Mdl_longJump_89 (fun H locs hP hS => ?_)
        refine lv_goto (tgt := 149) hx hb d_Mdl_longJump_92 rfl ?_
        refine lv_iconst (v := (1 : Int32)) hx hb d_Mdl_longJump_149 (by decide) ?_
        exact rt_z X hr hk hP hS (by decide) (by rw [f_Mdl_longJump, if_neg h1, if_neg h2, if_pos h3, bn_eq e24, bn_eq e27]) d_Mdl_longJump_150
    ·
      refine lv_aload_n hx hb d_Mdl_longJump_36 rfl (lv_at hl 0 rfl) ?_
      refine kv_vs (rest := []) X hP hS (c_Mdl_nextLong l D cB cI a bz ha S) (kw_Mdl_nextLong hts q_724 ⟨Nat.le_of_ble_eq_true rfl, Nat.le_of_ble_eq_true rfl⟩) 0 rfl rfl rfl hl.1 rfl (lv_room (Nat.le_of_ble_eq_true rfl)) d_Mdl_longJump_37 (fun r28 S29 H locs e30 hP hS => ?_)
      refine lv_istore_n hx hb d_Mdl_longJump_40 rfl hl (Nat.le_of_ble_eq_true rfl) rfl (fun ls hl => ?_)
      have hl : lv_has ls 3 [(2, .int (r28)), (0, .ref (a 0)), (1, .int (x1))] := hl
      refine lv_aload_n hx hb d_Mdl_longJump_41 rfl (lv_at hl 1 rfl) ?_
      refine lv_aload_n hx hb d_Mdl_longJump_42 rfl (lv_at hl 1 rfl) ?_
      refine gt_Mdl X hP 8 (by decide) (v := .int (S29.1 7)) q_571 rfl d_Mdl_longJump_43 ?_
      refine kv_s (rest := []) X hP hS (c_Mdl_push l D cB cI a bz ha S29 (S29.1 7)) (kw_Mdl_push hts q_663 ⟨Nat.le_of_ble_eq_true rfl, Nat.le_of_ble_eq_true rfl⟩) 0 rfl rfl rfl hl.1 rfl (lv_room (Nat.le_of_ble_eq_true rfl)) d_Mdl_longJump_46 (fun S31 H locs e32 hP hS => ?_)
      refine lv_aload_n hx hb d_Mdl_longJump_49 rfl (lv_at hl 1 rfl) ?_
      refine lv_iload_n hx hb d_Mdl_longJump_50 rfl (lv_at hl 0 rfl) ?_
      refine kv_s (rest := []) X hP hS (c_Mdl_call l D cB cI a bz ha S31 r28) (kw_Mdl_call hts q_822 ⟨Nat.le_of_ble_eq_true rfl, Nat.le_of_ble_eq_true rfl⟩) 0 rfl rfl rfl hl.1 rfl (lv_room (Nat.le_of_ble_eq_true rfl)) d_Mdl_longJump_51 (fun S33 H locs e34 hP hS => ?_)
      refine lv_aload_n hx hb d_Mdl_longJump_54 rfl (lv_at hl 1 rfl) ?_
      refine lv_iload_n hx hb d_Mdl_longJump_55 rfl (lv_at hl 0 rfl) ?_
      refine lv_bipush (v := (16 : Int32)) hx hb d_Mdl_longJump_56 (by decide) ?_
      refine lv_ishr hx hb d_Mdl_longJump_58 ?_
      refine pt_Mdl X hP hS 8 (by decide) (v := (r28 >>> ((16 : Int32) &&& 31))) (S1 := (pr S33 7 ((r28 >>> ((16 : Int32) &&& 31))))) q_571 rfl rfl rfl rfl d_Mdl_longJump_59 (fun H locs hP hS => ?_)
      refine lv_goto (tgt := 149) hx hb d_Mdl_longJump_62 rfl ?_
      refine lv_iconst (v := (1 : Int32)) hx hb d_Mdl_longJump_149 (by decide) ?_
      exact rt_z X hr hk hP hS (by decide) (by rw [f_Mdl_longJump, if_neg h1, if_pos h2, bn_eq e30, bs_eq e32, bs_eq e34]) d_Mdl_longJump_150
  ·
    refine lv_aload_n hx hb d_Mdl_longJump_6 rfl (lv_at hl 0 rfl) ?_
    refine kv_vs (rest := []) X hP hS (c_Mdl_nextLong l D cB cI a bz ha S) (kw_Mdl_nextLong hts q_724 ⟨Nat.le_of_ble_eq_true rfl, Nat.le_of_ble_eq_true rfl⟩) 0 rfl rfl rfl hl.1 rfl (lv_room (Nat.le_of_ble_eq_true rfl)) d_Mdl_longJump_7 (fun r35 S36 H locs e37 hP hS => ?_)
    refine lv_istore_n hx hb d_Mdl_longJump_10 rfl hl (Nat.le_of_ble_eq_true rfl) rfl (fun ls hl => ?_)
    have hl : lv_has ls 3 [(2, .int (r35)), (0, .ref (a 0)), (1, .int (x1))] := hl
    refine lv_aload_n hx hb d_Mdl_longJump_11 rfl (lv_at hl 1 rfl) ?_
    refine lv_iload_n hx hb d_Mdl_longJump_12 rfl (lv_at hl 0 rfl) ?_
    refine lv_bipush (v := (16 : Int32)) hx hb d_Mdl_longJump_13 (by decide) ?_
    refine lv_ishr hx hb d_Mdl_longJump_15 ?_
    refine pt_Mdl X hP hS 8 (by decide) (v := (r35 >>> ((16 : Int32) &&& 31))) (S1 := (pr S36 7 ((r35 >>> ((16 : Int32) &&& 31))))) q_571 rfl rfl rfl rfl d_Mdl_longJump_16 (fun H locs hP hS => ?_)
    refine lv_aload_n hx hb d_Mdl_longJump_19 rfl (lv_at hl 1 rfl) ?_
    refine lv_iload_n hx hb d_Mdl_longJump_20 rfl (lv_at hl 0 rfl) ?_
    refine lv_ldc (v := (65535 : Int32)) hx hb hown (hts _ q_630) d_Mdl_longJump_21 ?_
    refine lv_iand hx hb d_Mdl_longJump_23 ?_
    refine pt_Mdl X hP hS 9 (by decide) (v := (r35 &&& (65535 : Int32))) (S1 := (pr (pr S36 7 ((r35 >>> ((16 : Int32) &&& 31)))) 8 ((r35 &&& (65535 : Int32))))) q_572 rfl rfl rfl rfl d_Mdl_longJump_24 (fun H locs hP hS => ?_)
    refine lv_goto (tgt := 149) hx hb d_Mdl_longJump_27 rfl ?_
    refine lv_iconst (v := (1 : Int32)) hx hb d_Mdl_longJump_149 (by decide) ?_
    exact rt_z X hr hk hP hS (by decide) (by rw [f_Mdl_longJump, if_pos h1, bn_eq e37]) d_Mdl_longJump_150
set_option maxHeartbeats 4000000 in
set_option maxRecDepth 100000 in
theorem c_Mdl_jump (l : Launch) (D : va_G) (cB cI : ClassId) (a : Nat → Nat) (bz : Nat) (ha : ap a 3) (S : Sc) (x1 : Int32) : MI l y_Mdl_jump b_Mdl_jump 3 (some .boolean) rm_Mdl_jump [.ref (a 0), .int x1] D cB cI (wdT cI a) (ow a 3) bz S (f_Mdl_jump S x1) := by
  refine met_in R_Mdl (by decide) rfl (Nat.le_of_ble_eq_true rfl) (wdT_D ha cI) ?_
  intro p e s m below meth c ls X hr hk hl hP hS
  have hx := X.1.1
  have hb := X.1.2.1
  have hown := X.1.2.2.2.1
  have hts := X.1.2.2.2.2
  have hl : lv_has ls 3 [(0, .ref (a 0)), (1, .int x1)] := hl
  refine lv_iload_n hx hb d_Mdl_jump_0 rfl (lv_at hl 1 rfl) ?_
  by_cases h1 : x1 = (16 : Int32)
  ·
    refine sw_l (k := (16 : Int32)) (tgt := 116) hx hb d_Mdl_jump_1 h1 rfl ?_
    refine lv_aload_n hx hb d_Mdl_jump_116 rfl (lv_at hl 0 rfl) ?_
    refine lv_aload_n hx hb d_Mdl_jump_117 rfl (lv_at hl 0 rfl) ?_
    refine lv_sipush (v := (128 : Int32)) hx hb d_Mdl_jump_118 (by decide) ?_
    refine kv_v (rest := [.ref (a 0)]) X hP hS (c_Mdl_is l D cB cI a bz ha S (128 : Int32)) (kw_Mdl_is hts q_635 ⟨Nat.le_of_ble_eq_true rfl, Nat.le_of_ble_eq_true rfl⟩) 0 rfl rfl rfl hl.1 rfl (lv_room (Nat.le_of_ble_eq_true rfl)) d_Mdl_jump_121 (fun H locs hP hS => ?_)
    refine lv_if_ne (tgt := 131) hx hb d_Mdl_jump_124 rfl (fun h2 => ?_) (fun h2 => ?_)
    ·
      refine lv_iconst (v := (0 : Int32)) hx hb d_Mdl_jump_131 (by decide) ?_
      refine kv_s (rest := []) X hP hS (c_Mdl_branch l D cB cI a bz ha S (0 : Int32)) (kw_Mdl_branch hts q_818 ⟨Nat.le_of_ble_eq_true rfl, Nat.le_of_ble_eq_true rfl⟩) 0 rfl rfl rfl hl.1 rfl (lv_room (Nat.le_of_ble_eq_true rfl)) d_Mdl_jump_132 (fun S3 H locs e4 hP hS => ?_)
      refine lv_goto (tgt := 323) hx hb d_Mdl_jump_135 rfl ?_
      refine lv_iconst (v := (1 : Int32)) hx hb d_Mdl_jump_323 (by decide) ?_
      exact rt_z X hr hk hP hS (by decide) (by rw [f_Mdl_jump, if_pos h1, if_neg h2, bs_eq e4]) d_Mdl_jump_324
    ·
      refine lv_iconst (v := (1 : Int32)) hx hb d_Mdl_jump_127 (by decide) ?_
      refine lv_goto (tgt := 132) hx hb d_Mdl_jump_128 rfl ?_
      refine kv_s (rest := []) X hP hS (c_Mdl_branch l D cB cI a bz ha S (1 : Int32)) (kw_Mdl_branch hts q_818 ⟨Nat.le_of_ble_eq_true rfl, Nat.le_of_ble_eq_true rfl⟩) 0 rfl rfl rfl hl.1 rfl (lv_room (Nat.le_of_ble_eq_true rfl)) d_Mdl_jump_132 (fun S5 H locs e6 hP hS => ?_)
      refine lv_goto (tgt := 323) hx hb d_Mdl_jump_135 rfl ?_
      refine lv_iconst (v := (1 : Int32)) hx hb d_Mdl_jump_323 (by decide) ?_
      exact rt_z X hr hk hP hS (by decide) (by rw [f_Mdl_jump, if_pos h1, if_pos h2, bs_eq e6]) d_Mdl_jump_324
  ·
    by_cases h7 : x1 = (32 : Int32)
    ·
      refine sw_l (k := (32 : Int32)) (tgt := 290) hx hb d_Mdl_jump_1 h7 rfl ?_
      refine lv_aload_n hx hb d_Mdl_jump_290 rfl (lv_at hl 0 rfl) ?_
      refine lv_aload_n hx hb d_Mdl_jump_291 rfl (lv_at hl 0 rfl) ?_
      refine kv_vs (rest := [.ref (a 0)]) X hP hS (c_Mdl_nextWord l D cB cI a bz ha S) (kw_Mdl_nextWord hts q_716 ⟨Nat.le_of_ble_eq_true rfl, Nat.le_of_ble_eq_true rfl⟩) 0 rfl rfl rfl hl.1 rfl (lv_room (Nat.le_of_ble_eq_true rfl)) d_Mdl_jump_292 (fun r8 S9 H locs e10 hP hS => ?_)
      refine kv_s (rest := []) X hP hS (c_Mdl_call l D cB cI a bz ha S9 r8) (kw_Mdl_call hts q_822 ⟨Nat.le_of_ble_eq_true rfl, Nat.le_of_ble_eq_true rfl⟩) 0 rfl rfl rfl hl.1 rfl (lv_room (Nat.le_of_ble_eq_true rfl)) d_Mdl_jump_295 (fun S11 H locs e12 hP hS => ?_)
      refine lv_goto (tgt := 323) hx hb d_Mdl_jump_298 rfl ?_
      refine lv_iconst (v := (1 : Int32)) hx hb d_Mdl_jump_323 (by decide) ?_
      exact rt_z X hr hk hP hS (by decide) (by rw [f_Mdl_jump, if_neg h1, if_pos h7, bn_eq e10, bs_eq e12]) d_Mdl_jump_324
    ·
      by_cases h13 : x1 = (48 : Int32)
      ·
        refine sw_l (k := (48 : Int32)) (tgt := 138) hx hb d_Mdl_jump_1 h13 rfl ?_
        refine lv_aload_n hx hb d_Mdl_jump_138 rfl (lv_at hl 0 rfl) ?_
        refine lv_aload_n hx hb d_Mdl_jump_139 rfl (lv_at hl 0 rfl) ?_
        refine lv_sipush (v := (128 : Int32)) hx hb d_Mdl_jump_140 (by decide) ?_
        refine kv_v (rest := [.ref (a 0)]) X hP hS (c_Mdl_is l D cB cI a bz ha S (128 : Int32)) (kw_Mdl_is hts q_635 ⟨Nat.le_of_ble_eq_true rfl, Nat.le_of_ble_eq_true rfl⟩) 0 rfl rfl rfl hl.1 rfl (lv_room (Nat.le_of_ble_eq_true rfl)) d_Mdl_jump_143 (fun H locs hP hS => ?_)
        refine kv_s (rest := []) X hP hS (c_Mdl_branch l D cB cI a bz ha S (f_Mdl_is S (128 : Int32))) (kw_Mdl_branch hts q_818 ⟨Nat.le_of_ble_eq_true rfl, Nat.le_of_ble_eq_true rfl⟩) 0 rfl rfl rfl hl.1 rfl (lv_room (Nat.le_of_ble_eq_true rfl)) d_Mdl_jump_146 (fun S14 H locs e15 hP hS => ?_)
        refine lv_goto (tgt := 323) hx hb d_Mdl_jump_149 rfl ?_
        refine lv_iconst (v := (1 : Int32)) hx hb d_Mdl_jump_323 (by decide) ?_
        exact rt_z X hr hk hP hS (by decide) (by rw [f_Mdl_jump, if_neg h1, if_neg h7, if_pos h13, bs_eq e15]) d_Mdl_jump_324
      ·
        by_cases h16 : x1 = (76 : Int32)
        ·
          refine sw_l (k := (76 : Int32)) (tgt := 279) hx hb d_Mdl_jump_1 h16 rfl ?_
          refine lv_aload_n hx hb d_Mdl_jump_279 rfl (lv_at hl 0 rfl) ?_
          refine lv_aload_n hx hb d_Mdl_jump_280 rfl (lv_at hl 0 rfl) ?_
          refine kv_vs (rest := [.ref (a 0)]) X hP hS (c_Mdl_nextWord l D cB cI a bz ha S) (kw_Mdl_nextWord hts q_716 ⟨Nat.le_of_ble_eq_true rfl, Nat.le_of_ble_eq_true rfl⟩) 0 rfl rfl rfl hl.1 rfl (lv_room (Nat.le_of_ble_eq_true rfl)) d_Mdl_jump_281 (fun r17 S18 H locs e19 hP hS => ?_)
          refine pt_Mdl X hP hS 9 (by decide) (v := r17) (S1 := (pr S18 8 (r17))) q_572 rfl rfl rfl rfl d_Mdl_jump_284 (fun H locs hP hS => ?_)
          refine lv_goto (tgt := 323) hx hb d_Mdl_jump_287 rfl ?_
          refine lv_iconst (v := (1 : Int32)) hx hb d_Mdl_jump_323 (by decide) ?_
          exact rt_z X hr hk hP hS (by decide) (by rw [f_Mdl_jump, if_neg h1, if_neg h7, if_neg h13, if_pos h16, bn_eq e19]) d_Mdl_jump_324
        ·
          by_cases h20 : x1 = (80 : Int32)
          ·
            refine sw_l (k := (80 : Int32)) (tgt := 152) hx hb d_Mdl_jump_1 h20 rfl ?_
            refine lv_aload_n hx hb d_Mdl_jump_152 rfl (lv_at hl 0 rfl) ?_
            refine lv_aload_n hx hb d_Mdl_jump_153 rfl (lv_at hl 0 rfl) ?_
            refine lv_bipush (v := (64 : Int32)) hx hb d_Mdl_jump_154 (by decide) ?_
            refine kv_v (rest := [.ref (a 0)]) X hP hS (c_Mdl_is l D cB cI a bz ha S (64 : Int32)) (kw_Mdl_is hts q_635 ⟨Nat.le_of_ble_eq_true rfl, Nat.le_of_ble_eq_true rfl⟩) 0 rfl rfl rfl hl.1 rfl (lv_room (Nat.le_of_ble_eq_true rfl)) d_Mdl_jump_156 (fun H locs hP hS => ?_)
            refine lv_if_ne (tgt := 166) hx hb d_Mdl_jump_159 rfl (fun h21 => ?_) (fun h21 => ?_)
            ·
              refine lv_iconst (v := (0 : Int32)) hx hb d_Mdl_jump_166 (by decide) ?_
              refine kv_s (rest := []) X hP hS (c_Mdl_branch l D cB cI a bz ha S (0 : Int32)) (kw_Mdl_branch hts q_818 ⟨Nat.le_of_ble_eq_true rfl, Nat.le_of_ble_eq_true rfl⟩) 0 rfl rfl rfl hl.1 rfl (lv_room (Nat.le_of_ble_eq_true rfl)) d_Mdl_jump_167 (fun S22 H locs e23 hP hS => ?_)
              refine lv_goto (tgt := 323) hx hb d_Mdl_jump_170 rfl ?_
              refine lv_iconst (v := (1 : Int32)) hx hb d_Mdl_jump_323 (by decide) ?_
              exact rt_z X hr hk hP hS (by decide) (by rw [f_Mdl_jump, if_neg h1, if_neg h7, if_neg h13, if_neg h16, if_pos h20, if_neg h21, bs_eq e23]) d_Mdl_jump_324
            ·
              refine lv_iconst (v := (1 : Int32)) hx hb d_Mdl_jump_162 (by decide) ?_
              refine lv_goto (tgt := 167) hx hb d_Mdl_jump_163 rfl ?_
              refine kv_s (rest := []) X hP hS (c_Mdl_branch l D cB cI a bz ha S (1 : Int32)) (kw_Mdl_branch hts q_818 ⟨Nat.le_of_ble_eq_true rfl, Nat.le_of_ble_eq_true rfl⟩) 0 rfl rfl rfl hl.1 rfl (lv_room (Nat.le_of_ble_eq_true rfl)) d_Mdl_jump_167 (fun S24 H locs e25 hP hS => ?_)
              refine lv_goto (tgt := 323) hx hb d_Mdl_jump_170 rfl ?_
              refine lv_iconst (v := (1 : Int32)) hx hb d_Mdl_jump_323 (by decide) ?_
              exact rt_z X hr hk hP hS (by decide) (by rw [f_Mdl_jump, if_neg h1, if_neg h7, if_neg h13, if_neg h16, if_pos h20, if_pos h21, bs_eq e25]) d_Mdl_jump_324
          ·
            by_cases h26 : x1 = (96 : Int32)
            ·
              refine sw_l (k := (96 : Int32)) (tgt := 301) hx hb d_Mdl_jump_1 h26 rfl ?_
              refine lv_aload_n hx hb d_Mdl_jump_301 rfl (lv_at hl 0 rfl) ?_
              refine lv_aload_n hx hb d_Mdl_jump_302 rfl (lv_at hl 0 rfl) ?_
              refine kv_vs (rest := [.ref (a 0)]) X hP hS (c_Mdl_pullWord l D cB cI a bz ha S) (kw_Mdl_pullWord hts q_810 ⟨Nat.le_of_ble_eq_true rfl, Nat.le_of_ble_eq_true rfl⟩) 0 rfl rfl rfl hl.1 rfl (lv_room (Nat.le_of_ble_eq_true rfl)) d_Mdl_jump_303 (fun r27 S28 H locs e29 hP hS => ?_)
              refine lv_iconst (v := (1 : Int32)) hx hb d_Mdl_jump_306 (by decide) ?_
              refine lv_iadd hx hb d_Mdl_jump_307 ?_
              refine lv_ldc (v := (65535 : Int32)) hx hb hown (hts _ q_630) d_Mdl_jump_308 ?_
              refine lv_iand hx hb d_Mdl_jump_310 ?_
              refine pt_Mdl X hP hS 9 (by decide) (v := ((r27 + (1 : Int32)) &&& (65535 : Int32))) (S1 := (pr S28 8 (((r27 + (1 : Int32)) &&& (65535 : Int32))))) q_572 rfl rfl rfl rfl d_Mdl_jump_311 (fun H locs hP hS => ?_)
              refine lv_goto (tgt := 323) hx hb d_Mdl_jump_314 rfl ?_
              refine lv_iconst (v := (1 : Int32)) hx hb d_Mdl_jump_323 (by decide) ?_
              exact rt_z X hr hk hP hS (by decide) (by rw [f_Mdl_jump, if_neg h1, if_neg h7, if_neg h13, if_neg h16, if_neg h20, if_pos h26, bn_eq e29]) d_Mdl_jump_324
            ·
              by_cases h30 : x1 = (112 : Int32)
              ·
                refine sw_l (k := (112 : Int32)) (tgt := 173) hx hb d_Mdl_jump_1 h30 rfl ?_
                refine lv_aload_n hx hb d_Mdl_jump_173 rfl (lv_at hl 0 rfl) ?_
                refine lv_aload_n hx hb d_Mdl_jump_174 rfl (lv_at hl 0 rfl) ?_
                refine lv_bipush (v := (64 : Int32)) hx hb d_Mdl_jump_175 (by decide) ?_
                refine kv_v (rest := [.ref (a 0)]) X hP hS (c_Mdl_is l D cB cI a bz ha S (64 : Int32)) (kw_Mdl_is hts q_635 ⟨Nat.le_of_ble_eq_true rfl, Nat.le_of_ble_eq_true rfl⟩) 0 rfl rfl rfl hl.1 rfl (lv_room (Nat.le_of_ble_eq_true rfl)) d_Mdl_jump_177 (fun H locs hP hS => ?_)
                refine kv_s (rest := []) X hP hS (c_Mdl_branch l D cB cI a bz ha S (f_Mdl_is S (64 : Int32))) (kw_Mdl_branch hts q_818 ⟨Nat.le_of_ble_eq_true rfl, Nat.le_of_ble_eq_true rfl⟩) 0 rfl rfl rfl hl.1 rfl (lv_room (Nat.le_of_ble_eq_true rfl)) d_Mdl_jump_180 (fun S31 H locs e32 hP hS => ?_)
                refine lv_goto (tgt := 323) hx hb d_Mdl_jump_183 rfl ?_
                refine lv_iconst (v := (1 : Int32)) hx hb d_Mdl_jump_323 (by decide) ?_
                exact rt_z X hr hk hP hS (by decide) (by rw [f_Mdl_jump, if_neg h1, if_neg h7, if_neg h13, if_neg h16, if_neg h20, if_neg h26, if_pos h30, bs_eq e32]) d_Mdl_jump_324
              ·
                by_cases h33 : x1 = (128 : Int32)
                ·
                  refine sw_l (k := (128 : Int32)) (tgt := 250) hx hb d_Mdl_jump_1 h33 rfl ?_
                  refine lv_aload_n hx hb d_Mdl_jump_250 rfl (lv_at hl 0 rfl) ?_
                  refine lv_iconst (v := (1 : Int32)) hx hb d_Mdl_jump_251 (by decide) ?_
                  refine kv_s (rest := []) X hP hS (c_Mdl_branch l D cB cI a bz ha S (1 : Int32)) (kw_Mdl_branch hts q_818 ⟨Nat.le_of_ble_eq_true rfl, Nat.le_of_ble_eq_true rfl⟩) 0 rfl rfl rfl hl.1 rfl (lv_room (Nat.le_of_ble_eq_true rfl)) d_Mdl_jump_252 (fun S34 H locs e35 hP hS => ?_)
                  refine lv_goto (tgt := 323) hx hb d_Mdl_jump_255 rfl ?_
                  refine lv_iconst (v := (1 : Int32)) hx hb d_Mdl_jump_323 (by decide) ?_
                  exact rt_z X hr hk hP hS (by decide) (by rw [f_Mdl_jump, if_neg h1, if_neg h7, if_neg h13, if_neg h16, if_neg h20, if_neg h26, if_neg h30, if_pos h33, bs_eq e35]) d_Mdl_jump_324
                ·
                  by_cases h36 : x1 = (130 : Int32)
                  ·
                    refine sw_l (k := (130 : Int32)) (tgt := 258) hx hb d_Mdl_jump_1 h36 rfl ?_
                    refine lv_aload_n hx hb d_Mdl_jump_258 rfl (lv_at hl 0 rfl) ?_
                    refine kv_vs (rest := []) X hP hS (c_Mdl_nextWord l D cB cI a bz ha S) (kw_Mdl_nextWord hts q_716 ⟨Nat.le_of_ble_eq_true rfl, Nat.le_of_ble_eq_true rfl⟩) 0 rfl rfl rfl hl.1 rfl (lv_room (Nat.le_of_ble_eq_true rfl)) d_Mdl_jump_259 (fun r37 S38 H locs e39 hP hS => ?_)
                    refine lv_istore_n hx hb d_Mdl_jump_262 rfl hl (Nat.le_of_ble_eq_true rfl) rfl (fun ls hl => ?_)
                    have hl : lv_has ls 3 [(2, .int (r37)), (0, .ref (a 0)), (1, .int (x1))] := hl
                    refine lv_aload_n hx hb d_Mdl_jump_263 rfl (lv_at hl 1 rfl) ?_
                    refine lv_aload_n hx hb d_Mdl_jump_264 rfl (lv_at hl 1 rfl) ?_
                    refine gt_Mdl X hP 9 (by decide) (v := .int (S38.1 8)) q_572 rfl d_Mdl_jump_265 ?_
                    refine lv_iload_n hx hb d_Mdl_jump_268 rfl (lv_at hl 0 rfl) ?_
                    refine lv_iadd hx hb d_Mdl_jump_269 ?_
                    refine lv_ldc (v := (65535 : Int32)) hx hb hown (hts _ q_630) d_Mdl_jump_270 ?_
                    refine lv_iand hx hb d_Mdl_jump_272 ?_
                    refine pt_Mdl X hP hS 9 (by decide) (v := (((S38.1 8) + r37) &&& (65535 : Int32))) (S1 := (pr S38 8 ((((S38.1 8) + r37) &&& (65535 : Int32))))) q_572 rfl rfl rfl rfl d_Mdl_jump_273 (fun H locs hP hS => ?_)
                    refine lv_goto (tgt := 323) hx hb d_Mdl_jump_276 rfl ?_
                    refine lv_iconst (v := (1 : Int32)) hx hb d_Mdl_jump_323 (by decide) ?_
                    exact rt_z X hr hk hP hS (by decide) (by rw [f_Mdl_jump, if_neg h1, if_neg h7, if_neg h13, if_neg h16, if_neg h20, if_neg h26, if_neg h30, if_neg h33, if_pos h36, bn_eq e39]) d_Mdl_jump_324
                  ·
                    by_cases h40 : x1 = (144 : Int32)
                    ·
                      refine sw_l (k := (144 : Int32)) (tgt := 186) hx hb d_Mdl_jump_1 h40 rfl ?_
                      refine lv_aload_n hx hb d_Mdl_jump_186 rfl (lv_at hl 0 rfl) ?_
                      refine lv_aload_n hx hb d_Mdl_jump_187 rfl (lv_at hl 0 rfl) ?_
                      refine lv_iconst (v := (1 : Int32)) hx hb d_Mdl_jump_188 (by decide) ?_
                      refine kv_v (rest := [.ref (a 0)]) X hP hS (c_Mdl_is l D cB cI a bz ha S (1 : Int32)) (kw_Mdl_is hts q_635 ⟨Nat.le_of_ble_eq_true rfl, Nat.le_of_ble_eq_true rfl⟩) 0 rfl rfl rfl hl.1 rfl (lv_room (Nat.le_of_ble_eq_true rfl)) d_Mdl_jump_189 (fun H locs hP hS => ?_)
                      refine lv_if_ne (tgt := 199) hx hb d_Mdl_jump_192 rfl (fun h41 => ?_) (fun h41 => ?_)
                      ·
                        refine lv_iconst (v := (0 : Int32)) hx hb d_Mdl_jump_199 (by decide) ?_
                        refine kv_s (rest := []) X hP hS (c_Mdl_branch l D cB cI a bz ha S (0 : Int32)) (kw_Mdl_branch hts q_818 ⟨Nat.le_of_ble_eq_true rfl, Nat.le_of_ble_eq_true rfl⟩) 0 rfl rfl rfl hl.1 rfl (lv_room (Nat.le_of_ble_eq_true rfl)) d_Mdl_jump_200 (fun S42 H locs e43 hP hS => ?_)
                        refine lv_goto (tgt := 323) hx hb d_Mdl_jump_203 rfl ?_
                        refine lv_iconst (v := (1 : Int32)) hx hb d_Mdl_jump_323 (by decide) ?_
                        exact rt_z X hr hk hP hS (by decide) (by rw [f_Mdl_jump, if_neg h1, if_neg h7, if_neg h13, if_neg h16, if_neg h20, if_neg h26, if_neg h30, if_neg h33, if_neg h36, if_pos h40, if_neg h41, bs_eq e43]) d_Mdl_jump_324
                      ·
                        refine lv_iconst (v := (1 : Int32)) hx hb d_Mdl_jump_195 (by decide) ?_
                        refine lv_goto (tgt := 200) hx hb d_Mdl_jump_196 rfl ?_
                        refine kv_s (rest := []) X hP hS (c_Mdl_branch l D cB cI a bz ha S (1 : Int32)) (kw_Mdl_branch hts q_818 ⟨Nat.le_of_ble_eq_true rfl, Nat.le_of_ble_eq_true rfl⟩) 0 rfl rfl rfl hl.1 rfl (lv_room (Nat.le_of_ble_eq_true rfl)) d_Mdl_jump_200 (fun S44 H locs e45 hP hS => ?_)
                        refine lv_goto (tgt := 323) hx hb d_Mdl_jump_203 rfl ?_
                        refine lv_iconst (v := (1 : Int32)) hx hb d_Mdl_jump_323 (by decide) ?_
                        exact rt_z X hr hk hP hS (by decide) (by rw [f_Mdl_jump, if_neg h1, if_neg h7, if_neg h13, if_neg h16, if_neg h20, if_neg h26, if_neg h30, if_neg h33, if_neg h36, if_pos h40, if_pos h41, bs_eq e45]) d_Mdl_jump_324
                    ·
                      by_cases h46 : x1 = (176 : Int32)
                      ·
                        refine sw_l (k := (176 : Int32)) (tgt := 206) hx hb d_Mdl_jump_1 h46 rfl ?_
                        refine lv_aload_n hx hb d_Mdl_jump_206 rfl (lv_at hl 0 rfl) ?_
                        refine lv_aload_n hx hb d_Mdl_jump_207 rfl (lv_at hl 0 rfl) ?_
                        refine lv_iconst (v := (1 : Int32)) hx hb d_Mdl_jump_208 (by decide) ?_
                        refine kv_v (rest := [.ref (a 0)]) X hP hS (c_Mdl_is l D cB cI a bz ha S (1 : Int32)) (kw_Mdl_is hts q_635 ⟨Nat.le_of_ble_eq_true rfl, Nat.le_of_ble_eq_true rfl⟩) 0 rfl rfl rfl hl.1 rfl (lv_room (Nat.le_of_ble_eq_true rfl)) d_Mdl_jump_209 (fun H locs hP hS => ?_)
                        refine kv_s (rest := []) X hP hS (c_Mdl_branch l D cB cI a bz ha S (f_Mdl_is S (1 : Int32))) (kw_Mdl_branch hts q_818 ⟨Nat.le_of_ble_eq_true rfl, Nat.le_of_ble_eq_true rfl⟩) 0 rfl rfl rfl hl.1 rfl (lv_room (Nat.le_of_ble_eq_true rfl)) d_Mdl_jump_212 (fun S47 H locs e48 hP hS => ?_)
                        refine lv_goto (tgt := 323) hx hb d_Mdl_jump_215 rfl ?_
                        refine lv_iconst (v := (1 : Int32)) hx hb d_Mdl_jump_323 (by decide) ?_
                        exact rt_z X hr hk hP hS (by decide) (by rw [f_Mdl_jump, if_neg h1, if_neg h7, if_neg h13, if_neg h16, if_neg h20, if_neg h26, if_neg h30, if_neg h33, if_neg h36, if_neg h40, if_pos h46, bs_eq e48]) d_Mdl_jump_324
                      ·
                        by_cases h49 : x1 = (208 : Int32)
                        ·
                          refine sw_l (k := (208 : Int32)) (tgt := 218) hx hb d_Mdl_jump_1 h49 rfl ?_
                          refine lv_aload_n hx hb d_Mdl_jump_218 rfl (lv_at hl 0 rfl) ?_
                          refine lv_aload_n hx hb d_Mdl_jump_219 rfl (lv_at hl 0 rfl) ?_
                          refine lv_iconst (v := (2 : Int32)) hx hb d_Mdl_jump_220 (by decide) ?_
                          refine kv_v (rest := [.ref (a 0)]) X hP hS (c_Mdl_is l D cB cI a bz ha S (2 : Int32)) (kw_Mdl_is hts q_635 ⟨Nat.le_of_ble_eq_true rfl, Nat.le_of_ble_eq_true rfl⟩) 0 rfl rfl rfl hl.1 rfl (lv_room (Nat.le_of_ble_eq_true rfl)) d_Mdl_jump_221 (fun H locs hP hS => ?_)
                          refine lv_if_ne (tgt := 231) hx hb d_Mdl_jump_224 rfl (fun h50 => ?_) (fun h50 => ?_)
                          ·
                            refine lv_iconst (v := (0 : Int32)) hx hb d_Mdl_jump_231 (by decide) ?_
                            refine kv_s (rest := []) X hP hS (c_Mdl_branch l D cB cI a bz ha S (0 : Int32)) (kw_Mdl_branch hts q_818 ⟨Nat.le_of_ble_eq_true rfl, Nat.le_of_ble_eq_true rfl⟩) 0 rfl rfl rfl hl.1 rfl (lv_room (Nat.le_of_ble_eq_true rfl)) d_Mdl_jump_232 (fun S51 H locs e52 hP hS => ?_)
                            refine lv_goto (tgt := 323) hx hb d_Mdl_jump_235 rfl ?_
                            refine lv_iconst (v := (1 : Int32)) hx hb d_Mdl_jump_323 (by decide) ?_
                            exact rt_z X hr hk hP hS (by decide) (by rw [f_Mdl_jump, if_neg h1, if_neg h7, if_neg h13, if_neg h16, if_neg h20, if_neg h26, if_neg h30, if_neg h33, if_neg h36, if_neg h40, if_neg h46, if_pos h49, if_neg h50, bs_eq e52]) d_Mdl_jump_324
                          ·
                            refine lv_iconst (v := (1 : Int32)) hx hb d_Mdl_jump_227 (by decide) ?_
                            refine lv_goto (tgt := 232) hx hb d_Mdl_jump_228 rfl ?_
                            refine kv_s (rest := []) X hP hS (c_Mdl_branch l D cB cI a bz ha S (1 : Int32)) (kw_Mdl_branch hts q_818 ⟨Nat.le_of_ble_eq_true rfl, Nat.le_of_ble_eq_true rfl⟩) 0 rfl rfl rfl hl.1 rfl (lv_room (Nat.le_of_ble_eq_true rfl)) d_Mdl_jump_232 (fun S53 H locs e54 hP hS => ?_)
                            refine lv_goto (tgt := 323) hx hb d_Mdl_jump_235 rfl ?_
                            refine lv_iconst (v := (1 : Int32)) hx hb d_Mdl_jump_323 (by decide) ?_
                            exact rt_z X hr hk hP hS (by decide) (by rw [f_Mdl_jump, if_neg h1, if_neg h7, if_neg h13, if_neg h16, if_neg h20, if_neg h26, if_neg h30, if_neg h33, if_neg h36, if_neg h40, if_neg h46, if_pos h49, if_pos h50, bs_eq e54]) d_Mdl_jump_324
                        ·
                          by_cases h55 : x1 = (240 : Int32)
                          ·
                            refine sw_l (k := (240 : Int32)) (tgt := 238) hx hb d_Mdl_jump_1 h55 rfl ?_
                            refine lv_aload_n hx hb d_Mdl_jump_238 rfl (lv_at hl 0 rfl) ?_
                            refine lv_aload_n hx hb d_Mdl_jump_239 rfl (lv_at hl 0 rfl) ?_
                            refine lv_iconst (v := (2 : Int32)) hx hb d_Mdl_jump_240 (by decide) ?_
                            refine kv_v (rest := [.ref (a 0)]) X hP hS (c_Mdl_is l D cB cI a bz ha S (2 : Int32)) (kw_Mdl_is hts q_635 ⟨Nat.le_of_ble_eq_true rfl, Nat.le_of_ble_eq_true rfl⟩) 0 rfl rfl rfl hl.1 rfl (lv_room (Nat.le_of_ble_eq_true rfl)) d_Mdl_jump_241 (fun H locs hP hS => ?_)
                            refine kv_s (rest := []) X hP hS (c_Mdl_branch l D cB cI a bz ha S (f_Mdl_is S (2 : Int32))) (kw_Mdl_branch hts q_818 ⟨Nat.le_of_ble_eq_true rfl, Nat.le_of_ble_eq_true rfl⟩) 0 rfl rfl rfl hl.1 rfl (lv_room (Nat.le_of_ble_eq_true rfl)) d_Mdl_jump_244 (fun S56 H locs e57 hP hS => ?_)
                            refine lv_goto (tgt := 323) hx hb d_Mdl_jump_247 rfl ?_
                            refine lv_iconst (v := (1 : Int32)) hx hb d_Mdl_jump_323 (by decide) ?_
                            exact rt_z X hr hk hP hS (by decide) (by rw [f_Mdl_jump, if_neg h1, if_neg h7, if_neg h13, if_neg h16, if_neg h20, if_neg h26, if_neg h30, if_neg h33, if_neg h36, if_neg h40, if_neg h46, if_neg h49, if_pos h55, bs_eq e57]) d_Mdl_jump_324
                          ·
                            refine sn_l (tgt := 317) hx hb d_Mdl_jump_1 rfl ⟨lv_neT h1 rfl, lv_neT h7 rfl, lv_neT h13 rfl, lv_neT h16 rfl, lv_neT h20 rfl, lv_neT h26 rfl, lv_neT h30 rfl, lv_neT h33 rfl, lv_neT h36 rfl, lv_neT h40 rfl, lv_neT h46 rfl, lv_neT h49 rfl, lv_neT h55 rfl, trivial⟩ rfl ?_
                            refine lv_aload_n hx hb d_Mdl_jump_317 rfl (lv_at hl 0 rfl) ?_
                            refine lv_iload_n hx hb d_Mdl_jump_318 rfl (lv_at hl 1 rfl) ?_
                            refine kv_vs (rest := []) X hP hS (c_Mdl_longJump l D cB cI a bz ha S x1) (kw_Mdl_longJump hts q_826 ⟨Nat.le_of_ble_eq_true rfl, Nat.le_of_ble_eq_true rfl⟩) 0 rfl rfl rfl hl.1 rfl (lv_room (Nat.le_of_ble_eq_true rfl)) d_Mdl_jump_319 (fun r58 S59 H locs e60 hP hS => ?_)
                            exact rt_z X hr hk hP hS (z_lj e60) (by rw [f_Mdl_jump, if_neg h1, if_neg h7, if_neg h13, if_neg h16, if_neg h20, if_neg h26, if_neg h30, if_neg h33, if_neg h36, if_neg h40, if_neg h46, if_neg h49, if_neg h55, bn_eq e60]) d_Mdl_jump_322
set_option maxHeartbeats 4000000 in
set_option maxRecDepth 100000 in
theorem c_Mdl_other (l : Launch) (D : va_G) (cB cI : ClassId) (a : Nat → Nat) (bz : Nat) (ha : ap a 3) (S : Sc) (x1 : Int32) : MI l y_Mdl_other b_Mdl_other 2 (some .boolean) rm_Mdl_other [.ref (a 0), .int x1] D cB cI (wdT cI a) (ow a 3) bz S (f_Mdl_other S x1) := by
  refine met_in R_Mdl (by decide) rfl (Nat.le_of_ble_eq_true rfl) (wdT_D ha cI) ?_
  intro p e s m below meth c ls X hr hk hl hP hS
  have hx := X.1.1
  have hb := X.1.2.1
  have hown := X.1.2.2.2.1
  have hts := X.1.2.2.2.2
  have hl : lv_has ls 2 [(0, .ref (a 0)), (1, .int x1)] := hl
  refine lv_iload_n hx hb d_Mdl_other_0 rfl (lv_at hl 1 rfl) ?_
  by_cases h1 : x1 = (24 : Int32)
  ·
    refine sw_l (k := (24 : Int32)) (tgt := 142) hx hb d_Mdl_other_1 h1 rfl ?_
    refine lv_aload_n hx hb d_Mdl_other_142 rfl (lv_at hl 0 rfl) ?_
    refine lv_iconst (v := (1 : Int32)) hx hb d_Mdl_other_143 (by decide) ?_
    refine lv_iconst (v := (0 : Int32)) hx hb d_Mdl_other_144 (by decide) ?_
    refine kv_s (rest := []) X hP hS (c_Mdl_flag l D cB cI a bz ha S (1 : Int32) (0 : Int32)) (kw_Mdl_flag hts q_682 ⟨Nat.le_of_ble_eq_true rfl, Nat.le_of_ble_eq_true rfl⟩) 0 rfl rfl rfl hl.1 rfl (lv_room (Nat.le_of_ble_eq_true rfl)) d_Mdl_other_145 (fun S2 H locs e3 hP hS => ?_)
    refine lv_goto (tgt := 229) hx hb d_Mdl_other_148 rfl ?_
    refine lv_iconst (v := (1 : Int32)) hx hb d_Mdl_other_229 (by decide) ?_
    exact rt_z X hr hk hP hS (by decide) (by rw [f_Mdl_other, if_pos h1, bs_eq e3]) d_Mdl_other_230
  ·
    by_cases h4 : x1 = (56 : Int32)
    ·
      refine sw_l (k := (56 : Int32)) (tgt := 151) hx hb d_Mdl_other_1 h4 rfl ?_
      refine lv_aload_n hx hb d_Mdl_other_151 rfl (lv_at hl 0 rfl) ?_
      refine lv_iconst (v := (1 : Int32)) hx hb d_Mdl_other_152 (by decide) ?_
      refine lv_iconst (v := (1 : Int32)) hx hb d_Mdl_other_153 (by decide) ?_
      refine kv_s (rest := []) X hP hS (c_Mdl_flag l D cB cI a bz ha S (1 : Int32) (1 : Int32)) (kw_Mdl_flag hts q_682 ⟨Nat.le_of_ble_eq_true rfl, Nat.le_of_ble_eq_true rfl⟩) 0 rfl rfl rfl hl.1 rfl (lv_room (Nat.le_of_ble_eq_true rfl)) d_Mdl_other_154 (fun S5 H locs e6 hP hS => ?_)
      refine lv_goto (tgt := 229) hx hb d_Mdl_other_157 rfl ?_
      refine lv_iconst (v := (1 : Int32)) hx hb d_Mdl_other_229 (by decide) ?_
      exact rt_z X hr hk hP hS (by decide) (by rw [f_Mdl_other, if_neg h1, if_pos h4, bs_eq e6]) d_Mdl_other_230
    ·
      by_cases h7 : x1 = (68 : Int32)
      ·
        refine sw_l (k := (68 : Int32)) (tgt := 219) hx hb d_Mdl_other_1 h7 rfl ?_
        refine lv_aload_n hx hb d_Mdl_other_219 rfl (lv_at hl 0 rfl) ?_
        refine lv_iconst (v := (-1 : Int32)) hx hb d_Mdl_other_220 (by decide) ?_
        refine kv_s (rest := []) X hP hS (c_Mdl_moveBlock l D cB cI a bz ha S (-1 : Int32)) (kw_Mdl_moveBlock hts q_834 ⟨Nat.le_of_ble_eq_true rfl, Nat.le_of_ble_eq_true rfl⟩) 0 rfl rfl rfl hl.1 rfl (lv_room (Nat.le_of_ble_eq_true rfl)) d_Mdl_other_221 (fun S8 H locs e9 hP hS => ?_)
        refine lv_goto (tgt := 229) hx hb d_Mdl_other_224 rfl ?_
        refine lv_iconst (v := (1 : Int32)) hx hb d_Mdl_other_229 (by decide) ?_
        exact rt_z X hr hk hP hS (by decide) (by rw [f_Mdl_other, if_neg h1, if_neg h4, if_pos h7, bs_eq e9]) d_Mdl_other_230
      ·
        by_cases h10 : x1 = (84 : Int32)
        ·
          refine sw_l (k := (84 : Int32)) (tgt := 211) hx hb d_Mdl_other_1 h10 rfl ?_
          refine lv_aload_n hx hb d_Mdl_other_211 rfl (lv_at hl 0 rfl) ?_
          refine lv_iconst (v := (1 : Int32)) hx hb d_Mdl_other_212 (by decide) ?_
          refine kv_s (rest := []) X hP hS (c_Mdl_moveBlock l D cB cI a bz ha S (1 : Int32)) (kw_Mdl_moveBlock hts q_834 ⟨Nat.le_of_ble_eq_true rfl, Nat.le_of_ble_eq_true rfl⟩) 0 rfl rfl rfl hl.1 rfl (lv_room (Nat.le_of_ble_eq_true rfl)) d_Mdl_other_213 (fun S11 H locs e12 hP hS => ?_)
          refine lv_goto (tgt := 229) hx hb d_Mdl_other_216 rfl ?_
          refine lv_iconst (v := (1 : Int32)) hx hb d_Mdl_other_229 (by decide) ?_
          exact rt_z X hr hk hP hS (by decide) (by rw [f_Mdl_other, if_neg h1, if_neg h4, if_neg h7, if_pos h10, bs_eq e12]) d_Mdl_other_230
        ·
          by_cases h13 : x1 = (88 : Int32)
          ·
            refine sw_l (k := (88 : Int32)) (tgt := 160) hx hb d_Mdl_other_1 h13 rfl ?_
            refine lv_aload_n hx hb d_Mdl_other_160 rfl (lv_at hl 0 rfl) ?_
            refine lv_iconst (v := (4 : Int32)) hx hb d_Mdl_other_161 (by decide) ?_
            refine lv_iconst (v := (0 : Int32)) hx hb d_Mdl_other_162 (by decide) ?_
            refine kv_s (rest := []) X hP hS (c_Mdl_flag l D cB cI a bz ha S (4 : Int32) (0 : Int32)) (kw_Mdl_flag hts q_682 ⟨Nat.le_of_ble_eq_true rfl, Nat.le_of_ble_eq_true rfl⟩) 0 rfl rfl rfl hl.1 rfl (lv_room (Nat.le_of_ble_eq_true rfl)) d_Mdl_other_163 (fun S14 H locs e15 hP hS => ?_)
            refine lv_goto (tgt := 229) hx hb d_Mdl_other_166 rfl ?_
            refine lv_iconst (v := (1 : Int32)) hx hb d_Mdl_other_229 (by decide) ?_
            exact rt_z X hr hk hP hS (by decide) (by rw [f_Mdl_other, if_neg h1, if_neg h4, if_neg h7, if_neg h10, if_pos h13, bs_eq e15]) d_Mdl_other_230
          ·
            by_cases h16 : x1 = (120 : Int32)
            ·
              refine sw_l (k := (120 : Int32)) (tgt := 169) hx hb d_Mdl_other_1 h16 rfl ?_
              refine lv_aload_n hx hb d_Mdl_other_169 rfl (lv_at hl 0 rfl) ?_
              refine lv_iconst (v := (4 : Int32)) hx hb d_Mdl_other_170 (by decide) ?_
              refine lv_iconst (v := (1 : Int32)) hx hb d_Mdl_other_171 (by decide) ?_
              refine kv_s (rest := []) X hP hS (c_Mdl_flag l D cB cI a bz ha S (4 : Int32) (1 : Int32)) (kw_Mdl_flag hts q_682 ⟨Nat.le_of_ble_eq_true rfl, Nat.le_of_ble_eq_true rfl⟩) 0 rfl rfl rfl hl.1 rfl (lv_room (Nat.le_of_ble_eq_true rfl)) d_Mdl_other_172 (fun S17 H locs e18 hP hS => ?_)
              refine lv_goto (tgt := 229) hx hb d_Mdl_other_175 rfl ?_
              refine lv_iconst (v := (1 : Int32)) hx hb d_Mdl_other_229 (by decide) ?_
              exact rt_z X hr hk hP hS (by decide) (by rw [f_Mdl_other, if_neg h1, if_neg h4, if_neg h7, if_neg h10, if_neg h13, if_pos h16, bs_eq e18]) d_Mdl_other_230
            ·
              by_cases h19 : x1 = (184 : Int32)
              ·
                refine sw_l (k := (184 : Int32)) (tgt := 198) hx hb d_Mdl_other_1 h19 rfl ?_
                refine lv_aload_n hx hb d_Mdl_other_198 rfl (lv_at hl 0 rfl) ?_
                refine lv_bipush (v := (64 : Int32)) hx hb d_Mdl_other_199 (by decide) ?_
                refine lv_iconst (v := (0 : Int32)) hx hb d_Mdl_other_201 (by decide) ?_
                refine kv_s (rest := []) X hP hS (c_Mdl_flag l D cB cI a bz ha S (64 : Int32) (0 : Int32)) (kw_Mdl_flag hts q_682 ⟨Nat.le_of_ble_eq_true rfl, Nat.le_of_ble_eq_true rfl⟩) 0 rfl rfl rfl hl.1 rfl (lv_room (Nat.le_of_ble_eq_true rfl)) d_Mdl_other_202 (fun S20 H locs e21 hP hS => ?_)
                refine lv_goto (tgt := 229) hx hb d_Mdl_other_205 rfl ?_
                refine lv_iconst (v := (1 : Int32)) hx hb d_Mdl_other_229 (by decide) ?_
                exact rt_z X hr hk hP hS (by decide) (by rw [f_Mdl_other, if_neg h1, if_neg h4, if_neg h7, if_neg h10, if_neg h13, if_neg h16, if_pos h19, bs_eq e21]) d_Mdl_other_230
              ·
                by_cases h22 : x1 = (194 : Int32)
                ·
                  refine sw_l (k := (194 : Int32)) (tgt := 124) hx hb d_Mdl_other_1 h22 rfl ?_
                  refine lv_aload_n hx hb d_Mdl_other_124 rfl (lv_at hl 0 rfl) ?_
                  refine lv_aload_n hx hb d_Mdl_other_125 rfl (lv_at hl 0 rfl) ?_
                  refine gt_Mdl X hP 7 (by decide) (v := .int (S.1 6)) q_570 rfl d_Mdl_other_126 ?_
                  refine lv_aload_n hx hb d_Mdl_other_129 rfl (lv_at hl 0 rfl) ?_
                  refine kv_vs (rest := [.int (S.1 6), .ref (a 0)]) X hP hS (c_Mdl_next l D cB cI a bz ha S) (kw_Mdl_next hts q_700 ⟨Nat.le_of_ble_eq_true rfl, Nat.le_of_ble_eq_true rfl⟩) 0 rfl rfl rfl hl.1 rfl (lv_room (Nat.le_of_ble_eq_true rfl)) d_Mdl_other_130 (fun r23 S24 H locs e25 hP hS => ?_)
                  refine lv_iconst (v := (-1 : Int32)) hx hb d_Mdl_other_133 (by decide) ?_
                  refine lv_ixor hx hb d_Mdl_other_134 ?_
                  refine lv_iand hx hb d_Mdl_other_135 ?_
                  refine kv_s (rest := []) X hP hS (c_Mdl_setFlags l D cB cI a bz ha S24 ((S.1 6) &&& (r23 ^^^ (-1 : Int32)))) (kw_Mdl_setFlags hts q_643 ⟨Nat.le_of_ble_eq_true rfl, Nat.le_of_ble_eq_true rfl⟩) 0 rfl rfl rfl hl.1 rfl (lv_room (Nat.le_of_ble_eq_true rfl)) d_Mdl_other_136 (fun S26 H locs e27 hP hS => ?_)
                  refine lv_goto (tgt := 229) hx hb d_Mdl_other_139 rfl ?_
                  refine lv_iconst (v := (1 : Int32)) hx hb d_Mdl_other_229 (by decide) ?_
                  exact rt_z X hr hk hP hS (by decide) (by rw [f_Mdl_other, if_neg h1, if_neg h4, if_neg h7, if_neg h10, if_neg h13, if_neg h16, if_neg h19, if_pos h22, bn_eq e25, bs_eq e27]) d_Mdl_other_230
                ·
                  by_cases h28 : x1 = (216 : Int32)
                  ·
                    refine sw_l (k := (216 : Int32)) (tgt := 178) hx hb d_Mdl_other_1 h28 rfl ?_
                    refine lv_aload_n hx hb d_Mdl_other_178 rfl (lv_at hl 0 rfl) ?_
                    refine lv_bipush (v := (8 : Int32)) hx hb d_Mdl_other_179 (by decide) ?_
                    refine lv_iconst (v := (0 : Int32)) hx hb d_Mdl_other_181 (by decide) ?_
                    refine kv_s (rest := []) X hP hS (c_Mdl_flag l D cB cI a bz ha S (8 : Int32) (0 : Int32)) (kw_Mdl_flag hts q_682 ⟨Nat.le_of_ble_eq_true rfl, Nat.le_of_ble_eq_true rfl⟩) 0 rfl rfl rfl hl.1 rfl (lv_room (Nat.le_of_ble_eq_true rfl)) d_Mdl_other_182 (fun S29 H locs e30 hP hS => ?_)
                    refine lv_goto (tgt := 229) hx hb d_Mdl_other_185 rfl ?_
                    refine lv_iconst (v := (1 : Int32)) hx hb d_Mdl_other_229 (by decide) ?_
                    exact rt_z X hr hk hP hS (by decide) (by rw [f_Mdl_other, if_neg h1, if_neg h4, if_neg h7, if_neg h10, if_neg h13, if_neg h16, if_neg h19, if_neg h22, if_pos h28, bs_eq e30]) d_Mdl_other_230
                  ·
                    by_cases h31 : x1 = (226 : Int32)
                    ·
                      refine sw_l (k := (226 : Int32)) (tgt := 108) hx hb d_Mdl_other_1 h31 rfl ?_
                      refine lv_aload_n hx hb d_Mdl_other_108 rfl (lv_at hl 0 rfl) ?_
                      refine lv_aload_n hx hb d_Mdl_other_109 rfl (lv_at hl 0 rfl) ?_
                      refine gt_Mdl X hP 7 (by decide) (v := .int (S.1 6)) q_570 rfl d_Mdl_other_110 ?_
                      refine lv_aload_n hx hb d_Mdl_other_113 rfl (lv_at hl 0 rfl) ?_
                      refine kv_vs (rest := [.int (S.1 6), .ref (a 0)]) X hP hS (c_Mdl_next l D cB cI a bz ha S) (kw_Mdl_next hts q_700 ⟨Nat.le_of_ble_eq_true rfl, Nat.le_of_ble_eq_true rfl⟩) 0 rfl rfl rfl hl.1 rfl (lv_room (Nat.le_of_ble_eq_true rfl)) d_Mdl_other_114 (fun r32 S33 H locs e34 hP hS => ?_)
                      refine lv_ior hx hb d_Mdl_other_117 ?_
                      refine kv_s (rest := []) X hP hS (c_Mdl_setFlags l D cB cI a bz ha S33 ((S.1 6) ||| r32)) (kw_Mdl_setFlags hts q_643 ⟨Nat.le_of_ble_eq_true rfl, Nat.le_of_ble_eq_true rfl⟩) 0 rfl rfl rfl hl.1 rfl (lv_room (Nat.le_of_ble_eq_true rfl)) d_Mdl_other_118 (fun S35 H locs e36 hP hS => ?_)
                      refine lv_goto (tgt := 229) hx hb d_Mdl_other_121 rfl ?_
                      refine lv_iconst (v := (1 : Int32)) hx hb d_Mdl_other_229 (by decide) ?_
                      exact rt_z X hr hk hP hS (by decide) (by rw [f_Mdl_other, if_neg h1, if_neg h4, if_neg h7, if_neg h10, if_neg h13, if_neg h16, if_neg h19, if_neg h22, if_neg h28, if_pos h31, bn_eq e34, bs_eq e36]) d_Mdl_other_230
                    ·
                      by_cases h37 : x1 = (234 : Int32)
                      ·
                        refine sw_l (k := (234 : Int32)) (tgt := 208) hx hb d_Mdl_other_1 h37 rfl ?_
                        refine lv_goto (tgt := 229) hx hb d_Mdl_other_208 rfl ?_
                        refine lv_iconst (v := (1 : Int32)) hx hb d_Mdl_other_229 (by decide) ?_
                        exact rt_z X hr hk hP hS (by decide) (by rw [f_Mdl_other, if_neg h1, if_neg h4, if_neg h7, if_neg h10, if_neg h13, if_neg h16, if_neg h19, if_neg h22, if_neg h28, if_neg h31, if_pos h37]) d_Mdl_other_230
                      ·
                        by_cases h38 : x1 = (248 : Int32)
                        ·
                          refine sw_l (k := (248 : Int32)) (tgt := 188) hx hb d_Mdl_other_1 h38 rfl ?_
                          refine lv_aload_n hx hb d_Mdl_other_188 rfl (lv_at hl 0 rfl) ?_
                          refine lv_bipush (v := (8 : Int32)) hx hb d_Mdl_other_189 (by decide) ?_
                          refine lv_iconst (v := (1 : Int32)) hx hb d_Mdl_other_191 (by decide) ?_
                          refine kv_s (rest := []) X hP hS (c_Mdl_flag l D cB cI a bz ha S (8 : Int32) (1 : Int32)) (kw_Mdl_flag hts q_682 ⟨Nat.le_of_ble_eq_true rfl, Nat.le_of_ble_eq_true rfl⟩) 0 rfl rfl rfl hl.1 rfl (lv_room (Nat.le_of_ble_eq_true rfl)) d_Mdl_other_192 (fun S39 H locs e40 hP hS => ?_)
                          refine lv_goto (tgt := 229) hx hb d_Mdl_other_195 rfl ?_
                          refine lv_iconst (v := (1 : Int32)) hx hb d_Mdl_other_229 (by decide) ?_
                          exact rt_z X hr hk hP hS (by decide) (by rw [f_Mdl_other, if_neg h1, if_neg h4, if_neg h7, if_neg h10, if_neg h13, if_neg h16, if_neg h19, if_neg h22, if_neg h28, if_neg h31, if_neg h37, if_pos h38, bs_eq e40]) d_Mdl_other_230
                        ·
                          refine sn_l (tgt := 227) hx hb d_Mdl_other_1 rfl ⟨lv_neT h1 rfl, lv_neT h4 rfl, lv_neT h7 rfl, lv_neT h10 rfl, lv_neT h13 rfl, lv_neT h16 rfl, lv_neT h19 rfl, lv_neT h22 rfl, lv_neT h28 rfl, lv_neT h31 rfl, lv_neT h37 rfl, lv_neT h38 rfl, trivial⟩ rfl ?_
                          refine lv_iconst (v := (0 : Int32)) hx hb d_Mdl_other_227 (by decide) ?_
                          exact rt_z X hr hk hP hS (by decide) (by rw [f_Mdl_other, if_neg h1, if_neg h4, if_neg h7, if_neg h10, if_neg h13, if_neg h16, if_neg h19, if_neg h22, if_neg h28, if_neg h31, if_neg h37, if_neg h38]) d_Mdl_other_228
set_option maxHeartbeats 4000000 in
set_option maxRecDepth 100000 in
theorem c_Mdl_poke (l : Launch) (D : va_G) (cB cI : ClassId) (a : Nat → Nat) (bz : Nat) (ha : ap a 3) (S : Sc) (x1 x2 x3 : Int32) : MI l y_Mdl_poke b_Mdl_poke 5 (some .boolean) rm_Mdl_poke [.ref (a 0), .int x1, .int x2, .int x3] D cB cI (wdT cI a) (ow a 3) bz S (f_Mdl_poke S x1 x2 x3) := by
  refine met_in R_Mdl (by decide) rfl (Nat.le_of_ble_eq_true rfl) (wdT_D ha cI) ?_
  intro p e s m below meth c ls X hr hk hl hP hS
  have hx := X.1.1
  have hb := X.1.2.1
  have hown := X.1.2.2.2.1
  have hts := X.1.2.2.2.2
  have hl : lv_has ls 5 [(0, .ref (a 0)), (1, .int x1), (2, .int x2), (3, .int x3)] := hl
  refine lv_iload_n hx hb d_Mdl_poke_0 rfl (lv_at hl 3 rfl) ?_
  refine lv_iconst (v := (1 : Int32)) hx hb d_Mdl_poke_1 (by decide) ?_
  refine lv_icmp_lt (tgt := 23) hx hb d_Mdl_poke_2 rfl (fun h1 => ?_) (fun h1 => ?_)
  ·
    refine lv_iconst (v := (0 : Int32)) hx hb d_Mdl_poke_23 (by decide) ?_
    exact rt_z X hr hk hP hS (by decide) (by rw [f_Mdl_poke, if_pos h1]) d_Mdl_poke_24
  ·
    refine lv_iload_n hx hb d_Mdl_poke_5 rfl (lv_at hl 3 rfl) ?_
    refine lv_iconst (v := (4 : Int32)) hx hb d_Mdl_poke_6 (by decide) ?_
    refine lv_icmp_gt (tgt := 23) hx hb d_Mdl_poke_7 rfl (fun h2 => ?_) (fun h2 => ?_)
    ·
      refine lv_iconst (v := (0 : Int32)) hx hb d_Mdl_poke_23 (by decide) ?_
      exact rt_z X hr hk hP hS (by decide) (by rw [f_Mdl_poke, if_neg h1, if_pos h2]) d_Mdl_poke_24
    ·
      refine lv_iload_n hx hb d_Mdl_poke_10 rfl (lv_at hl 1 rfl) ?_
      refine lv_if_lt (tgt := 23) hx hb d_Mdl_poke_11 rfl (fun h3 => ?_) (fun h3 => ?_)
      ·
        refine lv_iconst (v := (0 : Int32)) hx hb d_Mdl_poke_23 (by decide) ?_
        exact rt_z X hr hk hP hS (by decide) (by rw [f_Mdl_poke, if_neg h1, if_neg h2, if_pos h3]) d_Mdl_poke_24
      ·
        refine lv_iload_n hx hb d_Mdl_poke_14 rfl (lv_at hl 1 rfl) ?_
        refine lv_sipush (v := (1024 : Int32)) hx hb d_Mdl_poke_15 (by decide) ?_
        refine lv_iload_n hx hb d_Mdl_poke_18 rfl (lv_at hl 3 rfl) ?_
        refine lv_isub hx hb d_Mdl_poke_19 ?_
        refine lv_icmp_le (tgt := 25) hx hb d_Mdl_poke_20 rfl (fun h4 => ?_) (fun h4 => ?_)
        ·
          refine lv_iconst (v := (0 : Int32)) hx hb d_Mdl_poke_25 (by decide) ?_
          refine lv_istore hx hb d_Mdl_poke_26 hl (Nat.le_of_ble_eq_true rfl) rfl (fun ls hl => ?_)
          have hl : lv_has ls 5 [(4, .int ((0 : Int32))), (0, .ref (a 0)), (1, .int (x1)), (2, .int (x2)), (3, .int (x3))] := hl
          refine lv_iload hx hb d_Mdl_poke_28 (lv_at hl 0 rfl) ?_
          refine lv_iload_n hx hb d_Mdl_poke_30 rfl (lv_at hl 4 rfl) ?_
          refine lv_icmp_ge (tgt := 60) hx hb d_Mdl_poke_31 rfl (fun h5 => ?_) (fun h5 => ?_)
          ·
            refine lv_iconst (v := (1 : Int32)) hx hb d_Mdl_poke_60 (by decide) ?_
            exact rt_z X hr hk hP hS (by decide) (by rw [f_Mdl_poke, if_neg h1, if_neg h2, if_neg h3, if_pos h4, if_pos h5]) d_Mdl_poke_61
          ·
            refine lv_aload_n hx hb d_Mdl_poke_34 rfl (lv_at hl 1 rfl) ?_
            refine gt_Mdl X hP 0 (by decide) (v := .ref (a 1)) q_563 rfl d_Mdl_poke_35 ?_
            refine lv_iload_n hx hb d_Mdl_poke_38 rfl (lv_at hl 2 rfl) ?_
            refine lv_iload hx hb d_Mdl_poke_39 (lv_at hl 0 rfl) ?_
            refine lv_iadd hx hb d_Mdl_poke_41 ?_
            refine lv_iload_n hx hb d_Mdl_poke_42 rfl (lv_at hl 3 rfl) ?_
            refine lv_bipush (v := (8 : Int32)) hx hb d_Mdl_poke_43 (by decide) ?_
            refine lv_iload hx hb d_Mdl_poke_45 (lv_at hl 0 rfl) ?_
            refine lv_imul hx hb d_Mdl_poke_47 ?_
            refine lv_ishr hx hb d_Mdl_poke_48 ?_
            refine lv_sipush (v := (255 : Int32)) hx hb d_Mdl_poke_49 (by decide) ?_
            refine lv_iand hx hb d_Mdl_poke_52 ?_
            refine wri_ X hP hS 1 rfl (S1 := (pm S (((x1 + (0 : Int32))).toNatClampNeg) (((x2 >>> (((8 : Int32) * (0 : Int32)) &&& 31)) &&& (255 : Int32))))) (in_poke (n := x3) (by decide) (by assumption) (by assumption) (by assumption) (by assumption)) rfl d_Mdl_poke_53 (fun H locs hP hS => ?_)
            refine lv_iinc (k := 0) (v := (1 : Int32)) hx hb d_Mdl_poke_54 hl rfl (by decide) (Nat.le_of_ble_eq_true rfl) rfl (fun ls hl => ?_)
            have hl : lv_has ls 5 [(4, .int ((1 : Int32))), (0, .ref (a 0)), (1, .int (x1)), (2, .int (x2)), (3, .int (x3))] := hl
            refine lv_goto (tgt := 28) hx hb d_Mdl_poke_57 rfl ?_
            refine lv_iload hx hb d_Mdl_poke_28 (lv_at hl 0 rfl) ?_
            refine lv_iload_n hx hb d_Mdl_poke_30 rfl (lv_at hl 4 rfl) ?_
            refine lv_icmp_ge (tgt := 60) hx hb d_Mdl_poke_31 rfl (fun h6 => ?_) (fun h6 => ?_)
            ·
              refine lv_iconst (v := (1 : Int32)) hx hb d_Mdl_poke_60 (by decide) ?_
              exact rt_z X hr hk hP hS (by decide) (by rw [f_Mdl_poke, if_neg h1, if_neg h2, if_neg h3, if_pos h4, if_neg h5, if_pos h6]) d_Mdl_poke_61
            ·
              refine lv_aload_n hx hb d_Mdl_poke_34 rfl (lv_at hl 1 rfl) ?_
              refine gt_Mdl X hP 0 (by decide) (v := .ref (a 1)) q_563 rfl d_Mdl_poke_35 ?_
              refine lv_iload_n hx hb d_Mdl_poke_38 rfl (lv_at hl 2 rfl) ?_
              refine lv_iload hx hb d_Mdl_poke_39 (lv_at hl 0 rfl) ?_
              refine lv_iadd hx hb d_Mdl_poke_41 ?_
              refine lv_iload_n hx hb d_Mdl_poke_42 rfl (lv_at hl 3 rfl) ?_
              refine lv_bipush (v := (8 : Int32)) hx hb d_Mdl_poke_43 (by decide) ?_
              refine lv_iload hx hb d_Mdl_poke_45 (lv_at hl 0 rfl) ?_
              refine lv_imul hx hb d_Mdl_poke_47 ?_
              refine lv_ishr hx hb d_Mdl_poke_48 ?_
              refine lv_sipush (v := (255 : Int32)) hx hb d_Mdl_poke_49 (by decide) ?_
              refine lv_iand hx hb d_Mdl_poke_52 ?_
              refine wri_ X hP hS 1 rfl (S1 := (pm (pm S (((x1 + (0 : Int32))).toNatClampNeg) (((x2 >>> (((8 : Int32) * (0 : Int32)) &&& 31)) &&& (255 : Int32)))) (((x1 + (1 : Int32))).toNatClampNeg) (((x2 >>> (((8 : Int32) * (1 : Int32)) &&& 31)) &&& (255 : Int32))))) (in_poke (n := x3) (by decide) (by assumption) (by assumption) (by assumption) (by assumption)) rfl d_Mdl_poke_53 (fun H locs hP hS => ?_)
              refine lv_iinc (k := 0) (v := (2 : Int32)) hx hb d_Mdl_poke_54 hl rfl (by decide) (Nat.le_of_ble_eq_true rfl) rfl (fun ls hl => ?_)
              have hl : lv_has ls 5 [(4, .int ((2 : Int32))), (0, .ref (a 0)), (1, .int (x1)), (2, .int (x2)), (3, .int (x3))] := hl
              refine lv_goto (tgt := 28) hx hb d_Mdl_poke_57 rfl ?_
              refine lv_iload hx hb d_Mdl_poke_28 (lv_at hl 0 rfl) ?_
              refine lv_iload_n hx hb d_Mdl_poke_30 rfl (lv_at hl 4 rfl) ?_
              refine lv_icmp_ge (tgt := 60) hx hb d_Mdl_poke_31 rfl (fun h7 => ?_) (fun h7 => ?_)
              ·
                refine lv_iconst (v := (1 : Int32)) hx hb d_Mdl_poke_60 (by decide) ?_
                exact rt_z X hr hk hP hS (by decide) (by rw [f_Mdl_poke, if_neg h1, if_neg h2, if_neg h3, if_pos h4, if_neg h5, if_neg h6, if_pos h7]) d_Mdl_poke_61
              ·
                refine lv_aload_n hx hb d_Mdl_poke_34 rfl (lv_at hl 1 rfl) ?_
                refine gt_Mdl X hP 0 (by decide) (v := .ref (a 1)) q_563 rfl d_Mdl_poke_35 ?_
                refine lv_iload_n hx hb d_Mdl_poke_38 rfl (lv_at hl 2 rfl) ?_
                refine lv_iload hx hb d_Mdl_poke_39 (lv_at hl 0 rfl) ?_
                refine lv_iadd hx hb d_Mdl_poke_41 ?_
                refine lv_iload_n hx hb d_Mdl_poke_42 rfl (lv_at hl 3 rfl) ?_
                refine lv_bipush (v := (8 : Int32)) hx hb d_Mdl_poke_43 (by decide) ?_
                refine lv_iload hx hb d_Mdl_poke_45 (lv_at hl 0 rfl) ?_
                refine lv_imul hx hb d_Mdl_poke_47 ?_
                refine lv_ishr hx hb d_Mdl_poke_48 ?_
                refine lv_sipush (v := (255 : Int32)) hx hb d_Mdl_poke_49 (by decide) ?_
                refine lv_iand hx hb d_Mdl_poke_52 ?_
                refine wri_ X hP hS 1 rfl (S1 := (pm (pm (pm S (((x1 + (0 : Int32))).toNatClampNeg) (((x2 >>> (((8 : Int32) * (0 : Int32)) &&& 31)) &&& (255 : Int32)))) (((x1 + (1 : Int32))).toNatClampNeg) (((x2 >>> (((8 : Int32) * (1 : Int32)) &&& 31)) &&& (255 : Int32)))) (((x1 + (2 : Int32))).toNatClampNeg) (((x2 >>> (((8 : Int32) * (2 : Int32)) &&& 31)) &&& (255 : Int32))))) (in_poke (n := x3) (by decide) (by assumption) (by assumption) (by assumption) (by assumption)) rfl d_Mdl_poke_53 (fun H locs hP hS => ?_)
                refine lv_iinc (k := 0) (v := (3 : Int32)) hx hb d_Mdl_poke_54 hl rfl (by decide) (Nat.le_of_ble_eq_true rfl) rfl (fun ls hl => ?_)
                have hl : lv_has ls 5 [(4, .int ((3 : Int32))), (0, .ref (a 0)), (1, .int (x1)), (2, .int (x2)), (3, .int (x3))] := hl
                refine lv_goto (tgt := 28) hx hb d_Mdl_poke_57 rfl ?_
                refine lv_iload hx hb d_Mdl_poke_28 (lv_at hl 0 rfl) ?_
                refine lv_iload_n hx hb d_Mdl_poke_30 rfl (lv_at hl 4 rfl) ?_
                refine lv_icmp_ge (tgt := 60) hx hb d_Mdl_poke_31 rfl (fun h8 => ?_) (fun h8 => ?_)
                ·
                  refine lv_iconst (v := (1 : Int32)) hx hb d_Mdl_poke_60 (by decide) ?_
                  exact rt_z X hr hk hP hS (by decide) (by rw [f_Mdl_poke, if_neg h1, if_neg h2, if_neg h3, if_pos h4, if_neg h5, if_neg h6, if_neg h7, if_pos h8]) d_Mdl_poke_61
                ·
                  refine lv_aload_n hx hb d_Mdl_poke_34 rfl (lv_at hl 1 rfl) ?_
                  refine gt_Mdl X hP 0 (by decide) (v := .ref (a 1)) q_563 rfl d_Mdl_poke_35 ?_
                  refine lv_iload_n hx hb d_Mdl_poke_38 rfl (lv_at hl 2 rfl) ?_
                  refine lv_iload hx hb d_Mdl_poke_39 (lv_at hl 0 rfl) ?_
                  refine lv_iadd hx hb d_Mdl_poke_41 ?_
                  refine lv_iload_n hx hb d_Mdl_poke_42 rfl (lv_at hl 3 rfl) ?_
                  refine lv_bipush (v := (8 : Int32)) hx hb d_Mdl_poke_43 (by decide) ?_
                  refine lv_iload hx hb d_Mdl_poke_45 (lv_at hl 0 rfl) ?_
                  refine lv_imul hx hb d_Mdl_poke_47 ?_
                  refine lv_ishr hx hb d_Mdl_poke_48 ?_
                  refine lv_sipush (v := (255 : Int32)) hx hb d_Mdl_poke_49 (by decide) ?_
                  refine lv_iand hx hb d_Mdl_poke_52 ?_
                  refine wri_ X hP hS 1 rfl (S1 := (pm (pm (pm (pm S (((x1 + (0 : Int32))).toNatClampNeg) (((x2 >>> (((8 : Int32) * (0 : Int32)) &&& 31)) &&& (255 : Int32)))) (((x1 + (1 : Int32))).toNatClampNeg) (((x2 >>> (((8 : Int32) * (1 : Int32)) &&& 31)) &&& (255 : Int32)))) (((x1 + (2 : Int32))).toNatClampNeg) (((x2 >>> (((8 : Int32) * (2 : Int32)) &&& 31)) &&& (255 : Int32)))) (((x1 + (3 : Int32))).toNatClampNeg) (((x2 >>> (((8 : Int32) * (3 : Int32)) &&& 31)) &&& (255 : Int32))))) (in_poke (n := x3) (by decide) (by assumption) (by assumption) (by assumption) (by assumption)) rfl d_Mdl_poke_53 (fun H locs hP hS => ?_)
                  refine lv_iinc (k := 0) (v := (4 : Int32)) hx hb d_Mdl_poke_54 hl rfl (by decide) (Nat.le_of_ble_eq_true rfl) rfl (fun ls hl => ?_)
                  have hl : lv_has ls 5 [(4, .int ((4 : Int32))), (0, .ref (a 0)), (1, .int (x1)), (2, .int (x2)), (3, .int (x3))] := hl
                  refine lv_goto (tgt := 28) hx hb d_Mdl_poke_57 rfl ?_
                  refine lv_iload hx hb d_Mdl_poke_28 (lv_at hl 0 rfl) ?_
                  refine lv_iload_n hx hb d_Mdl_poke_30 rfl (lv_at hl 4 rfl) ?_
                  refine lv_icmp_ge (tgt := 60) hx hb d_Mdl_poke_31 rfl (fun _ => ?_) (fun h => absurd (Int32.not_lt.mp h2) h)
                  refine lv_iconst (v := (1 : Int32)) hx hb d_Mdl_poke_60 (by decide) ?_
                  exact rt_z X hr hk hP hS (by decide) (by rw [f_Mdl_poke, if_neg h1, if_neg h2, if_neg h3, if_pos h4, if_neg h5, if_neg h6, if_neg h7, if_neg h8]) d_Mdl_poke_61
        ·
          refine lv_iconst (v := (0 : Int32)) hx hb d_Mdl_poke_23 (by decide) ?_
          exact rt_z X hr hk hP hS (by decide) (by rw [f_Mdl_poke, if_neg h1, if_neg h2, if_neg h3, if_neg h4]) d_Mdl_poke_24
set_option maxHeartbeats 4000000 in
set_option maxRecDepth 100000 in
theorem c_Mdl_peek (l : Launch) (D : va_G) (cB cI : ClassId) (a : Nat → Nat) (bz : Nat) (ha : ap a 3) (S : Sc) (x1 : Int32) : MI l y_Mdl_peek b_Mdl_peek 2 (some .int) rm_Mdl_peek [.ref (a 0), .int x1] D cB cI (wdT cI a) (ow a 3) bz S (f_Mdl_peek S x1, S) := by
  refine met_in R_Mdl (by decide) rfl (Nat.le_of_ble_eq_true rfl) (wdT_D ha cI) ?_
  intro p e s m below meth c ls X hr hk hl hP hS
  have hx := X.1.1
  have hb := X.1.2.1
  have hown := X.1.2.2.2.1
  have hts := X.1.2.2.2.2
  have hl : lv_has ls 2 [(0, .ref (a 0)), (1, .int x1)] := hl
  refine lv_iload_n hx hb d_Mdl_peek_0 rfl (lv_at hl 1 rfl) ?_
  refine lv_if_lt (tgt := 20) hx hb d_Mdl_peek_1 rfl (fun h1 => ?_) (fun h1 => ?_)
  ·
    refine lv_iconst (v := (-1 : Int32)) hx hb d_Mdl_peek_20 (by decide) ?_
    exact rt_vs X hr hk hP hS (by rw [f_Mdl_peek, if_pos h1]) d_Mdl_peek_21
  ·
    refine lv_iload_n hx hb d_Mdl_peek_4 rfl (lv_at hl 1 rfl) ?_
    refine lv_sipush (v := (1024 : Int32)) hx hb d_Mdl_peek_5 (by decide) ?_
    refine lv_icmp_ge (tgt := 20) hx hb d_Mdl_peek_8 rfl (fun h2 => ?_) (fun h2 => ?_)
    ·
      refine lv_iconst (v := (-1 : Int32)) hx hb d_Mdl_peek_20 (by decide) ?_
      exact rt_vs X hr hk hP hS (by rw [f_Mdl_peek, if_neg h1, if_pos h2]) d_Mdl_peek_21
    ·
      refine lv_aload_n hx hb d_Mdl_peek_11 rfl (lv_at hl 0 rfl) ?_
      refine gt_Mdl X hP 0 (by decide) (v := .ref (a 1)) q_563 rfl d_Mdl_peek_12 ?_
      refine lv_iload_n hx hb d_Mdl_peek_15 rfl (lv_at hl 1 rfl) ?_
      refine rdi_ X hP 1 rfl (v := S.2.1 (x1).toNatClampNeg) (in_peek (by assumption) (by assumption)) rfl d_Mdl_peek_16 ?_
      refine lv_goto (tgt := 21) hx hb d_Mdl_peek_17 rfl ?_
      exact rt_vs X hr hk hP hS (by rw [f_Mdl_peek, if_neg h1, if_neg h2]) d_Mdl_peek_21
set_option maxHeartbeats 4000000 in
set_option maxRecDepth 100000 in
theorem c_Mdl_start (l : Launch) (D : va_G) (cB cI : ClassId) (a : Nat → Nat) (bz : Nat) (ha : ap a 3) (S : Sc) (x1 x2 : Int32) : MI l y_Mdl_start b_Mdl_start 3 (some .boolean) rm_Mdl_start [.ref (a 0), .int x1, .int x2] D cB cI (wdT cI a) (ow a 3) bz S (f_Mdl_start S x1 x2) := by
  refine met_in R_Mdl (by decide) rfl (Nat.le_of_ble_eq_true rfl) (wdT_D ha cI) ?_
  intro p e s m below meth c ls X hr hk hl hP hS
  have hx := X.1.1
  have hb := X.1.2.1
  have hown := X.1.2.2.2.1
  have hts := X.1.2.2.2.2
  have hl : lv_has ls 3 [(0, .ref (a 0)), (1, .int x1), (2, .int x2)] := hl
  refine lv_iload_n hx hb d_Mdl_start_0 rfl (lv_at hl 1 rfl) ?_
  refine lv_if_lt (tgt := 21) hx hb d_Mdl_start_1 rfl (fun h1 => ?_) (fun h1 => ?_)
  ·
    refine lv_iconst (v := (0 : Int32)) hx hb d_Mdl_start_21 (by decide) ?_
    exact rt_z X hr hk hP hS (by decide) (by rw [f_Mdl_start, if_pos h1]) d_Mdl_start_22
  ·
    refine lv_iload_n hx hb d_Mdl_start_4 rfl (lv_at hl 1 rfl) ?_
    refine lv_sipush (v := (255 : Int32)) hx hb d_Mdl_start_5 (by decide) ?_
    refine lv_icmp_gt (tgt := 21) hx hb d_Mdl_start_8 rfl (fun h2 => ?_) (fun h2 => ?_)
    ·
      refine lv_iconst (v := (0 : Int32)) hx hb d_Mdl_start_21 (by decide) ?_
      exact rt_z X hr hk hP hS (by decide) (by rw [f_Mdl_start, if_neg h1, if_pos h2]) d_Mdl_start_22
    ·
      refine lv_iload_n hx hb d_Mdl_start_11 rfl (lv_at hl 2 rfl) ?_
      refine lv_if_lt (tgt := 21) hx hb d_Mdl_start_12 rfl (fun h3 => ?_) (fun h3 => ?_)
      ·
        refine lv_iconst (v := (0 : Int32)) hx hb d_Mdl_start_21 (by decide) ?_
        exact rt_z X hr hk hP hS (by decide) (by rw [f_Mdl_start, if_neg h1, if_neg h2, if_pos h3]) d_Mdl_start_22
      ·
        refine lv_iload_n hx hb d_Mdl_start_15 rfl (lv_at hl 2 rfl) ?_
        refine lv_ldc (v := (65535 : Int32)) hx hb hown (hts _ q_630) d_Mdl_start_16 ?_
        refine lv_icmp_le (tgt := 23) hx hb d_Mdl_start_18 rfl (fun h4 => ?_) (fun h4 => ?_)
        ·
          refine lv_aload_n hx hb d_Mdl_start_23 rfl (lv_at hl 0 rfl) ?_
          refine lv_iload_n hx hb d_Mdl_start_24 rfl (lv_at hl 1 rfl) ?_
          refine pt_Mdl X hP hS 8 (by decide) (v := x1) (S1 := (pr S 7 (x1))) q_571 rfl rfl rfl rfl d_Mdl_start_25 (fun H locs hP hS => ?_)
          refine lv_aload_n hx hb d_Mdl_start_28 rfl (lv_at hl 0 rfl) ?_
          refine lv_iload_n hx hb d_Mdl_start_29 rfl (lv_at hl 2 rfl) ?_
          refine pt_Mdl X hP hS 9 (by decide) (v := x2) (S1 := (pr (pr S 7 (x1)) 8 (x2))) q_572 rfl rfl rfl rfl d_Mdl_start_30 (fun H locs hP hS => ?_)
          refine lv_aload_n hx hb d_Mdl_start_33 rfl (lv_at hl 0 rfl) ?_
          refine lv_iconst (v := (0 : Int32)) hx hb d_Mdl_start_34 (by decide) ?_
          refine pt_Mdl X hP hS 10 (by decide) (v := (0 : Int32)) (S1 := (pr (pr (pr S 7 (x1)) 8 (x2)) 9 ((0 : Int32)))) q_573 rfl (by decide) rfl rfl d_Mdl_start_35 (fun H locs hP hS => ?_)
          refine lv_iconst (v := (1 : Int32)) hx hb d_Mdl_start_38 (by decide) ?_
          exact rt_z X hr hk hP hS (by decide) (by rw [f_Mdl_start, if_neg h1, if_neg h2, if_neg h3, if_pos h4]) d_Mdl_start_39
        ·
          refine lv_iconst (v := (0 : Int32)) hx hb d_Mdl_start_21 (by decide) ?_
          exact rt_z X hr hk hP hS (by decide) (by rw [f_Mdl_start, if_neg h1, if_neg h2, if_neg h3, if_neg h4]) d_Mdl_start_22
set_option maxHeartbeats 4000000 in
set_option maxRecDepth 100000 in
theorem c_Mdl_set (l : Launch) (D : va_G) (cB cI : ClassId) (a : Nat → Nat) (bz : Nat) (ha : ap a 3) (S : Sc) (x1 x2 : Int32) : MI l y_Mdl_set b_Mdl_set 3 (some .boolean) rm_Mdl_set [.ref (a 0), .int x1, .int x2] D cB cI (wdT cI a) (ow a 3) bz S (f_Mdl_set S x1 x2) := by
  refine met_in R_Mdl (by decide) rfl (Nat.le_of_ble_eq_true rfl) (wdT_D ha cI) ?_
  intro p e s m below meth c ls X hr hk hl hP hS
  have hx := X.1.1
  have hb := X.1.2.1
  have hown := X.1.2.2.2.1
  have hts := X.1.2.2.2.2
  have hl : lv_has ls 3 [(0, .ref (a 0)), (1, .int x1), (2, .int x2)] := hl
  refine lv_iload_n hx hb d_Mdl_set_0 rfl (lv_at hl 1 rfl) ?_
  by_cases h1 : x1 = (0 : Int32)
  ·
    refine sw_t (k := (0 : Int32)) (tgt := 44) hx hb d_Mdl_set_1 h1 rfl ?_
    refine lv_aload_n hx hb d_Mdl_set_44 rfl (lv_at hl 0 rfl) ?_
    refine lv_iload_n hx hb d_Mdl_set_45 rfl (lv_at hl 2 rfl) ?_
    refine lv_ldc (v := (65535 : Int32)) hx hb hown (hts _ q_630) d_Mdl_set_46 ?_
    refine lv_iand hx hb d_Mdl_set_48 ?_
    refine pt_Mdl X hP hS 1 (by decide) (v := (x2 &&& (65535 : Int32))) (S1 := (pr S 0 ((x2 &&& (65535 : Int32))))) q_564 rfl rfl rfl rfl d_Mdl_set_49 (fun H locs hP hS => ?_)
    refine lv_goto (tgt := 135) hx hb d_Mdl_set_52 rfl ?_
    refine lv_iconst (v := (1 : Int32)) hx hb d_Mdl_set_135 (by decide) ?_
    exact rt_z X hr hk hP hS (by decide) (by rw [f_Mdl_set, if_pos h1]) d_Mdl_set_136
  ·
    by_cases h2 : x1 = (1 : Int32)
    ·
      refine sw_t (k := (1 : Int32)) (tgt := 55) hx hb d_Mdl_set_1 h2 rfl ?_
      refine lv_aload_n hx hb d_Mdl_set_55 rfl (lv_at hl 0 rfl) ?_
      refine lv_aload_n hx hb d_Mdl_set_56 rfl (lv_at hl 0 rfl) ?_
      refine lv_iload_n hx hb d_Mdl_set_57 rfl (lv_at hl 2 rfl) ?_
      refine lv_aload_n hx hb d_Mdl_set_58 rfl (lv_at hl 0 rfl) ?_
      refine lv_bipush (v := (16 : Int32)) hx hb d_Mdl_set_59 (by decide) ?_
      refine kv_v (rest := [.int (x2), .ref (a 0), .ref (a 0)]) X hP hS (c_Mdl_is l D cB cI a bz ha S (16 : Int32)) (kw_Mdl_is hts q_635 ⟨Nat.le_of_ble_eq_true rfl, Nat.le_of_ble_eq_true rfl⟩) 0 rfl rfl rfl hl.1 rfl (lv_room (Nat.le_of_ble_eq_true rfl)) d_Mdl_set_61 (fun H locs hP hS => ?_)
      refine kv_v (rest := [.ref (a 0)]) X hP hS (c_Mdl_cut l D cB cI a bz ha S x2 (f_Mdl_is S (16 : Int32))) (kw_Mdl_cut hts q_639 ⟨Nat.le_of_ble_eq_true rfl, Nat.le_of_ble_eq_true rfl⟩) 0 rfl rfl rfl hl.1 rfl (lv_room (Nat.le_of_ble_eq_true rfl)) d_Mdl_set_64 (fun H locs hP hS => ?_)
      refine pt_Mdl X hP hS 2 (by decide) (v := (f_Mdl_cut x2 (f_Mdl_is S (16 : Int32)))) (S1 := (pr S 1 ((f_Mdl_cut x2 (f_Mdl_is S (16 : Int32)))))) q_565 rfl rfl rfl rfl d_Mdl_set_67 (fun H locs hP hS => ?_)
      refine lv_goto (tgt := 135) hx hb d_Mdl_set_70 rfl ?_
      refine lv_iconst (v := (1 : Int32)) hx hb d_Mdl_set_135 (by decide) ?_
      exact rt_z X hr hk hP hS (by decide) (by rw [f_Mdl_set, if_neg h1, if_pos h2]) d_Mdl_set_136
    ·
      by_cases h3 : x1 = (2 : Int32)
      ·
        refine sw_t (k := (2 : Int32)) (tgt := 73) hx hb d_Mdl_set_1 h3 rfl ?_
        refine lv_aload_n hx hb d_Mdl_set_73 rfl (lv_at hl 0 rfl) ?_
        refine lv_aload_n hx hb d_Mdl_set_74 rfl (lv_at hl 0 rfl) ?_
        refine lv_iload_n hx hb d_Mdl_set_75 rfl (lv_at hl 2 rfl) ?_
        refine lv_aload_n hx hb d_Mdl_set_76 rfl (lv_at hl 0 rfl) ?_
        refine lv_bipush (v := (16 : Int32)) hx hb d_Mdl_set_77 (by decide) ?_
        refine kv_v (rest := [.int (x2), .ref (a 0), .ref (a 0)]) X hP hS (c_Mdl_is l D cB cI a bz ha S (16 : Int32)) (kw_Mdl_is hts q_635 ⟨Nat.le_of_ble_eq_true rfl, Nat.le_of_ble_eq_true rfl⟩) 0 rfl rfl rfl hl.1 rfl (lv_room (Nat.le_of_ble_eq_true rfl)) d_Mdl_set_79 (fun H locs hP hS => ?_)
        refine kv_v (rest := [.ref (a 0)]) X hP hS (c_Mdl_cut l D cB cI a bz ha S x2 (f_Mdl_is S (16 : Int32))) (kw_Mdl_cut hts q_639 ⟨Nat.le_of_ble_eq_true rfl, Nat.le_of_ble_eq_true rfl⟩) 0 rfl rfl rfl hl.1 rfl (lv_room (Nat.le_of_ble_eq_true rfl)) d_Mdl_set_82 (fun H locs hP hS => ?_)
        refine pt_Mdl X hP hS 3 (by decide) (v := (f_Mdl_cut x2 (f_Mdl_is S (16 : Int32)))) (S1 := (pr S 2 ((f_Mdl_cut x2 (f_Mdl_is S (16 : Int32)))))) q_566 rfl rfl rfl rfl d_Mdl_set_85 (fun H locs hP hS => ?_)
        refine lv_goto (tgt := 135) hx hb d_Mdl_set_88 rfl ?_
        refine lv_iconst (v := (1 : Int32)) hx hb d_Mdl_set_135 (by decide) ?_
        exact rt_z X hr hk hP hS (by decide) (by rw [f_Mdl_set, if_neg h1, if_neg h2, if_pos h3]) d_Mdl_set_136
      ·
        by_cases h4 : x1 = (3 : Int32)
        ·
          refine sw_t (k := (3 : Int32)) (tgt := 91) hx hb d_Mdl_set_1 h4 rfl ?_
          refine lv_aload_n hx hb d_Mdl_set_91 rfl (lv_at hl 0 rfl) ?_
          refine lv_iload_n hx hb d_Mdl_set_92 rfl (lv_at hl 2 rfl) ?_
          refine lv_ldc (v := (65535 : Int32)) hx hb hown (hts _ q_630) d_Mdl_set_93 ?_
          refine lv_iand hx hb d_Mdl_set_95 ?_
          refine pt_Mdl X hP hS 4 (by decide) (v := (x2 &&& (65535 : Int32))) (S1 := (pr S 3 ((x2 &&& (65535 : Int32))))) q_567 rfl rfl rfl rfl d_Mdl_set_96 (fun H locs hP hS => ?_)
          refine lv_goto (tgt := 135) hx hb d_Mdl_set_99 rfl ?_
          refine lv_iconst (v := (1 : Int32)) hx hb d_Mdl_set_135 (by decide) ?_
          exact rt_z X hr hk hP hS (by decide) (by rw [f_Mdl_set, if_neg h1, if_neg h2, if_neg h3, if_pos h4]) d_Mdl_set_136
        ·
          by_cases h5 : x1 = (4 : Int32)
          ·
            refine sw_t (k := (4 : Int32)) (tgt := 102) hx hb d_Mdl_set_1 h5 rfl ?_
            refine lv_aload_n hx hb d_Mdl_set_102 rfl (lv_at hl 0 rfl) ?_
            refine lv_iload_n hx hb d_Mdl_set_103 rfl (lv_at hl 2 rfl) ?_
            refine lv_ldc (v := (65535 : Int32)) hx hb hown (hts _ q_630) d_Mdl_set_104 ?_
            refine lv_iand hx hb d_Mdl_set_106 ?_
            refine pt_Mdl X hP hS 5 (by decide) (v := (x2 &&& (65535 : Int32))) (S1 := (pr S 4 ((x2 &&& (65535 : Int32))))) q_568 rfl rfl rfl rfl d_Mdl_set_107 (fun H locs hP hS => ?_)
            refine lv_goto (tgt := 135) hx hb d_Mdl_set_110 rfl ?_
            refine lv_iconst (v := (1 : Int32)) hx hb d_Mdl_set_135 (by decide) ?_
            exact rt_z X hr hk hP hS (by decide) (by rw [f_Mdl_set, if_neg h1, if_neg h2, if_neg h3, if_neg h4, if_pos h5]) d_Mdl_set_136
          ·
            by_cases h6 : x1 = (5 : Int32)
            ·
              refine sw_t (k := (5 : Int32)) (tgt := 113) hx hb d_Mdl_set_1 h6 rfl ?_
              refine lv_aload_n hx hb d_Mdl_set_113 rfl (lv_at hl 0 rfl) ?_
              refine lv_iload_n hx hb d_Mdl_set_114 rfl (lv_at hl 2 rfl) ?_
              refine lv_sipush (v := (255 : Int32)) hx hb d_Mdl_set_115 (by decide) ?_
              refine lv_iand hx hb d_Mdl_set_118 ?_
              refine pt_Mdl X hP hS 6 (by decide) (v := (x2 &&& (255 : Int32))) (S1 := (pr S 5 ((x2 &&& (255 : Int32))))) q_569 rfl rfl rfl rfl d_Mdl_set_119 (fun H locs hP hS => ?_)
              refine lv_goto (tgt := 135) hx hb d_Mdl_set_122 rfl ?_
              refine lv_iconst (v := (1 : Int32)) hx hb d_Mdl_set_135 (by decide) ?_
              exact rt_z X hr hk hP hS (by decide) (by rw [f_Mdl_set, if_neg h1, if_neg h2, if_neg h3, if_neg h4, if_neg h5, if_pos h6]) d_Mdl_set_136
            ·
              by_cases h7 : x1 = (6 : Int32)
              ·
                refine sw_t (k := (6 : Int32)) (tgt := 125) hx hb d_Mdl_set_1 h7 rfl ?_
                refine lv_aload_n hx hb d_Mdl_set_125 rfl (lv_at hl 0 rfl) ?_
                refine lv_iload_n hx hb d_Mdl_set_126 rfl (lv_at hl 2 rfl) ?_
                refine kv_s (rest := []) X hP hS (c_Mdl_setFlags l D cB cI a bz ha S x2) (kw_Mdl_setFlags hts q_643 ⟨Nat.le_of_ble_eq_true rfl, Nat.le_of_ble_eq_true rfl⟩) 0 rfl rfl rfl hl.1 rfl (lv_room (Nat.le_of_ble_eq_true rfl)) d_Mdl_set_127 (fun S8 H locs e9 hP hS => ?_)
                refine lv_goto (tgt := 135) hx hb d_Mdl_set_130 rfl ?_
                refine lv_iconst (v := (1 : Int32)) hx hb d_Mdl_set_135 (by decide) ?_
                exact rt_z X hr hk hP hS (by decide) (by rw [f_Mdl_set, if_neg h1, if_neg h2, if_neg h3, if_neg h4, if_neg h5, if_neg h6, if_pos h7, bs_eq e9]) d_Mdl_set_136
              ·
                refine sn_t (tgt := 133) hx hb d_Mdl_set_1 (by have g0 := lv_neT (a := 0) h1 rfl; have g1 := lv_neT (a := 1) h2 rfl; have g2 := lv_neT (a := 2) h3 rfl; have g3 := lv_neT (a := 3) h4 rfl; have g4 := lv_neT (a := 4) h5 rfl; have g5 := lv_neT (a := 5) h6 rfl; have g6 := lv_neT (a := 6) h7 rfl; omega) rfl ?_
                refine lv_iconst (v := (0 : Int32)) hx hb d_Mdl_set_133 (by decide) ?_
                exact rt_z X hr hk hP hS (by decide) (by rw [f_Mdl_set, if_neg h1, if_neg h2, if_neg h3, if_neg h4, if_neg h5, if_neg h6, if_neg h7]) d_Mdl_set_134
set_option maxHeartbeats 4000000 in
set_option maxRecDepth 100000 in
theorem c_Mdl_register (l : Launch) (D : va_G) (cB cI : ClassId) (a : Nat → Nat) (bz : Nat) (ha : ap a 3) (S : Sc) (x1 : Int32) : MI l y_Mdl_register b_Mdl_register 2 (some .int) rm_Mdl_register [.ref (a 0), .int x1] D cB cI (wdT cI a) (ow a 3) bz S (f_Mdl_register S x1, S) := by
  refine met_in R_Mdl (by decide) rfl (Nat.le_of_ble_eq_true rfl) (wdT_D ha cI) ?_
  intro p e s m below meth c ls X hr hk hl hP hS
  have hx := X.1.1
  have hb := X.1.2.1
  have hown := X.1.2.2.2.1
  have hts := X.1.2.2.2.2
  have hl : lv_has ls 2 [(0, .ref (a 0)), (1, .int x1)] := hl
  refine lv_iload_n hx hb d_Mdl_register_0 rfl (lv_at hl 1 rfl) ?_
  by_cases h1 : x1 = (0 : Int32)
  ·
    refine sw_t (k := (0 : Int32)) (tgt := 52) hx hb d_Mdl_register_1 h1 rfl ?_
    refine lv_aload_n hx hb d_Mdl_register_52 rfl (lv_at hl 0 rfl) ?_
    refine gt_Mdl X hP 1 (by decide) (v := .int (S.1 0)) q_564 rfl d_Mdl_register_53 ?_
    exact rt_vs X hr hk hP hS (by rw [f_Mdl_register, if_pos h1]) d_Mdl_register_56
  ·
    by_cases h2 : x1 = (1 : Int32)
    ·
      refine sw_t (k := (1 : Int32)) (tgt := 57) hx hb d_Mdl_register_1 h2 rfl ?_
      refine lv_aload_n hx hb d_Mdl_register_57 rfl (lv_at hl 0 rfl) ?_
      refine gt_Mdl X hP 2 (by decide) (v := .int (S.1 1)) q_565 rfl d_Mdl_register_58 ?_
      exact rt_vs X hr hk hP hS (by rw [f_Mdl_register, if_neg h1, if_pos h2]) d_Mdl_register_61
    ·
      by_cases h3 : x1 = (2 : Int32)
      ·
        refine sw_t (k := (2 : Int32)) (tgt := 62) hx hb d_Mdl_register_1 h3 rfl ?_
        refine lv_aload_n hx hb d_Mdl_register_62 rfl (lv_at hl 0 rfl) ?_
        refine gt_Mdl X hP 3 (by decide) (v := .int (S.1 2)) q_566 rfl d_Mdl_register_63 ?_
        exact rt_vs X hr hk hP hS (by rw [f_Mdl_register, if_neg h1, if_neg h2, if_pos h3]) d_Mdl_register_66
      ·
        by_cases h4 : x1 = (3 : Int32)
        ·
          refine sw_t (k := (3 : Int32)) (tgt := 67) hx hb d_Mdl_register_1 h4 rfl ?_
          refine lv_aload_n hx hb d_Mdl_register_67 rfl (lv_at hl 0 rfl) ?_
          refine gt_Mdl X hP 4 (by decide) (v := .int (S.1 3)) q_567 rfl d_Mdl_register_68 ?_
          exact rt_vs X hr hk hP hS (by rw [f_Mdl_register, if_neg h1, if_neg h2, if_neg h3, if_pos h4]) d_Mdl_register_71
        ·
          by_cases h5 : x1 = (4 : Int32)
          ·
            refine sw_t (k := (4 : Int32)) (tgt := 72) hx hb d_Mdl_register_1 h5 rfl ?_
            refine lv_aload_n hx hb d_Mdl_register_72 rfl (lv_at hl 0 rfl) ?_
            refine gt_Mdl X hP 5 (by decide) (v := .int (S.1 4)) q_568 rfl d_Mdl_register_73 ?_
            exact rt_vs X hr hk hP hS (by rw [f_Mdl_register, if_neg h1, if_neg h2, if_neg h3, if_neg h4, if_pos h5]) d_Mdl_register_76
          ·
            by_cases h6 : x1 = (5 : Int32)
            ·
              refine sw_t (k := (5 : Int32)) (tgt := 77) hx hb d_Mdl_register_1 h6 rfl ?_
              refine lv_aload_n hx hb d_Mdl_register_77 rfl (lv_at hl 0 rfl) ?_
              refine gt_Mdl X hP 6 (by decide) (v := .int (S.1 5)) q_569 rfl d_Mdl_register_78 ?_
              exact rt_vs X hr hk hP hS (by rw [f_Mdl_register, if_neg h1, if_neg h2, if_neg h3, if_neg h4, if_neg h5, if_pos h6]) d_Mdl_register_81
            ·
              by_cases h7 : x1 = (6 : Int32)
              ·
                refine sw_t (k := (6 : Int32)) (tgt := 82) hx hb d_Mdl_register_1 h7 rfl ?_
                refine lv_aload_n hx hb d_Mdl_register_82 rfl (lv_at hl 0 rfl) ?_
                refine gt_Mdl X hP 7 (by decide) (v := .int (S.1 6)) q_570 rfl d_Mdl_register_83 ?_
                exact rt_vs X hr hk hP hS (by rw [f_Mdl_register, if_neg h1, if_neg h2, if_neg h3, if_neg h4, if_neg h5, if_neg h6, if_pos h7]) d_Mdl_register_86
              ·
                by_cases h8 : x1 = (7 : Int32)
                ·
                  refine sw_t (k := (7 : Int32)) (tgt := 87) hx hb d_Mdl_register_1 h8 rfl ?_
                  refine lv_aload_n hx hb d_Mdl_register_87 rfl (lv_at hl 0 rfl) ?_
                  refine gt_Mdl X hP 8 (by decide) (v := .int (S.1 7)) q_571 rfl d_Mdl_register_88 ?_
                  exact rt_vs X hr hk hP hS (by rw [f_Mdl_register, if_neg h1, if_neg h2, if_neg h3, if_neg h4, if_neg h5, if_neg h6, if_neg h7, if_pos h8]) d_Mdl_register_91
                ·
                  by_cases h9 : x1 = (8 : Int32)
                  ·
                    refine sw_t (k := (8 : Int32)) (tgt := 92) hx hb d_Mdl_register_1 h9 rfl ?_
                    refine lv_aload_n hx hb d_Mdl_register_92 rfl (lv_at hl 0 rfl) ?_
                    refine gt_Mdl X hP 9 (by decide) (v := .int (S.1 8)) q_572 rfl d_Mdl_register_93 ?_
                    exact rt_vs X hr hk hP hS (by rw [f_Mdl_register, if_neg h1, if_neg h2, if_neg h3, if_neg h4, if_neg h5, if_neg h6, if_neg h7, if_neg h8, if_pos h9]) d_Mdl_register_96
                  ·
                    refine sn_t (tgt := 97) hx hb d_Mdl_register_1 (by have g0 := lv_neT (a := 0) h1 rfl; have g1 := lv_neT (a := 1) h2 rfl; have g2 := lv_neT (a := 2) h3 rfl; have g3 := lv_neT (a := 3) h4 rfl; have g4 := lv_neT (a := 4) h5 rfl; have g5 := lv_neT (a := 5) h6 rfl; have g6 := lv_neT (a := 6) h7 rfl; have g7 := lv_neT (a := 7) h8 rfl; have g8 := lv_neT (a := 8) h9 rfl; omega) rfl ?_
                    refine lv_iconst (v := (-1 : Int32)) hx hb d_Mdl_register_97 (by decide) ?_
                    exact rt_vs X hr hk hP hS (by rw [f_Mdl_register, if_neg h1, if_neg h2, if_neg h3, if_neg h4, if_neg h5, if_neg h6, if_neg h7, if_neg h8, if_neg h9]) d_Mdl_register_98
set_option maxHeartbeats 4000000 in
set_option maxRecDepth 100000 in
theorem c_Mdl_stopped (l : Launch) (D : va_G) (cB cI : ClassId) (a : Nat → Nat) (bz : Nat) (ha : ap a 3) (S : Sc) (hz : narrow .boolean (.int (S.1 9)) = .int (S.1 9)) : MI l y_Mdl_stopped b_Mdl_stopped 1 (some .boolean) rm_Mdl_stopped [.ref (a 0)] D cB cI (wdT cI a) (ow a 3) bz S (f_Mdl_stopped S, S) := by
  refine met_in R_Mdl (by decide) rfl (Nat.le_of_ble_eq_true rfl) (wdT_D ha cI) ?_
  intro p e s m below meth c ls X hr hk hl hP hS
  have hx := X.1.1
  have hb := X.1.2.1
  have hown := X.1.2.2.2.1
  have hts := X.1.2.2.2.2
  have hl : lv_has ls 1 [(0, .ref (a 0))] := hl
  refine lv_aload_n hx hb d_Mdl_stopped_0 rfl (lv_at hl 0 rfl) ?_
  refine gt_Mdl X hP 10 (by decide) (v := .int (S.1 9)) q_573 rfl d_Mdl_stopped_1 ?_
  exact rt_z X hr hk hP hS hz (by rw [f_Mdl_stopped]) d_Mdl_stopped_4
set_option maxHeartbeats 4000000 in
set_option maxRecDepth 100000 in
theorem c_Mdl_interrupt (l : Launch) (D : va_G) (cB cI : ClassId) (a : Nat → Nat) (bz : Nat) (ha : ap a 3) (S : Sc) : MI l y_Mdl_interrupt b_Mdl_interrupt 2 (some .boolean) rm_Mdl_interrupt [.ref (a 0)] D cB cI (wdT cI a) (ow a 3) bz S (f_Mdl_interrupt S) := by
  refine met_in R_Mdl (by decide) rfl (Nat.le_of_ble_eq_true rfl) (wdT_D ha cI) ?_
  intro p e s m below meth c ls X hr hk hl hP hS
  have hx := X.1.1
  have hb := X.1.2.1
  have hown := X.1.2.2.2.1
  have hts := X.1.2.2.2.2
  have hl : lv_has ls 2 [(0, .ref (a 0))] := hl
  refine lv_aload_n hx hb d_Mdl_interrupt_0 rfl (lv_at hl 0 rfl) ?_
  refine gt_Mdl X hP 11 (by decide) (v := .int (S.1 10)) q_574 rfl d_Mdl_interrupt_1 ?_
  refine lv_istore_n hx hb d_Mdl_interrupt_4 rfl hl (Nat.le_of_ble_eq_true rfl) rfl (fun ls hl => ?_)
  have hl : lv_has ls 2 [(1, .int (S.1 10)), (0, .ref (a 0))] := hl
  refine lv_aload_n hx hb d_Mdl_interrupt_5 rfl (lv_at hl 1 rfl) ?_
  refine lv_iconst (v := (1 : Int32)) hx hb d_Mdl_interrupt_6 (by decide) ?_
  refine pt_Mdl X hP hS 11 (by decide) (v := (1 : Int32)) (S1 := (pr S 10 ((1 : Int32)))) q_574 rfl (by decide) rfl rfl d_Mdl_interrupt_7 (fun H locs hP hS => ?_)
  refine lv_iload_n hx hb d_Mdl_interrupt_10 rfl (lv_at hl 0 rfl) ?_
  refine lv_if_ne (tgt := 18) hx hb d_Mdl_interrupt_11 rfl (fun h1 => ?_) (fun h1 => ?_)
  ·
    refine lv_iconst (v := (0 : Int32)) hx hb d_Mdl_interrupt_18 (by decide) ?_
    exact rt_z X hr hk hP hS (by decide) (by rw [f_Mdl_interrupt, if_neg h1]) d_Mdl_interrupt_19
  ·
    refine lv_iconst (v := (1 : Int32)) hx hb d_Mdl_interrupt_14 (by decide) ?_
    refine lv_goto (tgt := 19) hx hb d_Mdl_interrupt_15 rfl ?_
    exact rt_z X hr hk hP hS (by decide) (by rw [f_Mdl_interrupt, if_pos h1]) d_Mdl_interrupt_19
set_option maxHeartbeats 4000000 in
set_option maxRecDepth 100000 in
theorem c_Mdl_line (l : Launch) (D : va_G) (cB cI : ClassId) (a : Nat → Nat) (bz : Nat) (ha : ap a 3) (S : Sc) (x1 : Int32) (hz : narrow .boolean (.int x1) = .int x1) (hz2 : fits .boolean (.int x1) = true) : MV l y_Mdl_line b_Mdl_line 2 rm_Mdl_line [.ref (a 0), .int x1] D cB cI (wdT cI a) (ow a 3) bz S (f_Mdl_line S x1) := by
  refine met_in R_Mdl (by decide) rfl (Nat.le_of_ble_eq_true rfl) (wdT_D ha cI) ?_
  intro p e s m below meth c ls X hr hk hl hP hS
  have hx := X.1.1
  have hb := X.1.2.1
  have hown := X.1.2.2.2.1
  have hts := X.1.2.2.2.2
  have hl : lv_has ls 2 [(0, .ref (a 0)), (1, .int x1)] := hl
  refine lv_aload_n hx hb d_Mdl_line_0 rfl (lv_at hl 0 rfl) ?_
  refine lv_iload_n hx hb d_Mdl_line_1 rfl (lv_at hl 1 rfl) ?_
  refine pt_Mdl X hP hS 12 (by decide) (v := x1) (S1 := (pr S 11 (x1))) q_575 rfl hz hz2 rfl d_Mdl_line_2 (fun H locs hP hS => ?_)
  exact rt_s X hr hk hP hS (by rw [f_Mdl_line]) d_Mdl_line_5
set_option maxHeartbeats 4000000 in
set_option maxRecDepth 100000 in
theorem c_Mdl_touches (l : Launch) (D : va_G) (cB cI : ClassId) (a : Nat → Nat) (bz : Nat) (ha : ap a 3) (S : Sc) : MI l y_Mdl_touches b_Mdl_touches 1 (some .int) rm_Mdl_touches [.ref (a 0)] D cB cI (wdT cI a) (ow a 3) bz S (f_Mdl_touches S, S) := by
  refine met_in R_Mdl (by decide) rfl (Nat.le_of_ble_eq_true rfl) (wdT_D ha cI) ?_
  intro p e s m below meth c ls X hr hk hl hP hS
  have hx := X.1.1
  have hb := X.1.2.1
  have hown := X.1.2.2.2.1
  have hts := X.1.2.2.2.2
  have hl : lv_has ls 1 [(0, .ref (a 0))] := hl
  refine lv_aload_n hx hb d_Mdl_touches_0 rfl (lv_at hl 0 rfl) ?_
  refine gt_Mdl X hP 14 (by decide) (v := .int (S.1 13)) q_577 rfl d_Mdl_touches_1 ?_
  exact rt_vs X hr hk hP hS (by rw [f_Mdl_touches]) d_Mdl_touches_4
set_option maxHeartbeats 4000000 in
set_option maxRecDepth 100000 in
theorem c_Mdl_touched (l : Launch) (D : va_G) (cB cI : ClassId) (a : Nat → Nat) (bz : Nat) (ha : ap a 3) (S : Sc) (x1 : Int32) : MI l y_Mdl_touched b_Mdl_touched 2 (some .int) rm_Mdl_touched [.ref (a 0), .int x1] D cB cI (wdT cI a) (ow a 3) bz S (f_Mdl_touched S x1, S) := by
  refine met_in R_Mdl (by decide) rfl (Nat.le_of_ble_eq_true rfl) (wdT_D ha cI) ?_
  intro p e s m below meth c ls X hr hk hl hP hS
  have hx := X.1.1
  have hb := X.1.2.1
  have hown := X.1.2.2.2.1
  have hts := X.1.2.2.2.2
  have hl : lv_has ls 2 [(0, .ref (a 0)), (1, .int x1)] := hl
  refine lv_iload_n hx hb d_Mdl_touched_0 rfl (lv_at hl 1 rfl) ?_
  refine lv_if_lt (tgt := 27) hx hb d_Mdl_touched_1 rfl (fun h1 => ?_) (fun h1 => ?_)
  ·
    refine lv_iconst (v := (-1 : Int32)) hx hb d_Mdl_touched_27 (by decide) ?_
    exact rt_vs X hr hk hP hS (by rw [f_Mdl_touched, if_pos h1]) d_Mdl_touched_28
  ·
    refine lv_iload_n hx hb d_Mdl_touched_4 rfl (lv_at hl 1 rfl) ?_
    refine lv_bipush (v := (8 : Int32)) hx hb d_Mdl_touched_5 (by decide) ?_
    refine lv_icmp_ge (tgt := 27) hx hb d_Mdl_touched_7 rfl (fun h2 => ?_) (fun h2 => ?_)
    ·
      refine lv_iconst (v := (-1 : Int32)) hx hb d_Mdl_touched_27 (by decide) ?_
      exact rt_vs X hr hk hP hS (by rw [f_Mdl_touched, if_neg h1, if_pos h2]) d_Mdl_touched_28
    ·
      refine lv_iload_n hx hb d_Mdl_touched_10 rfl (lv_at hl 1 rfl) ?_
      refine lv_aload_n hx hb d_Mdl_touched_11 rfl (lv_at hl 0 rfl) ?_
      refine gt_Mdl X hP 14 (by decide) (v := .int (S.1 13)) q_577 rfl d_Mdl_touched_12 ?_
      refine lv_icmp_ge (tgt := 27) hx hb d_Mdl_touched_15 rfl (fun h3 => ?_) (fun h3 => ?_)
      ·
        refine lv_iconst (v := (-1 : Int32)) hx hb d_Mdl_touched_27 (by decide) ?_
        exact rt_vs X hr hk hP hS (by rw [f_Mdl_touched, if_neg h1, if_neg h2, if_pos h3]) d_Mdl_touched_28
      ·
        refine lv_aload_n hx hb d_Mdl_touched_18 rfl (lv_at hl 0 rfl) ?_
        refine gt_Mdl X hP 15 (by decide) (v := .ref (a 2)) q_578 rfl d_Mdl_touched_19 ?_
        refine lv_iload_n hx hb d_Mdl_touched_22 rfl (lv_at hl 1 rfl) ?_
        refine rdi_ X hP 2 rfl (v := S.2.2 (x1).toNatClampNeg) (in_touched (by assumption) (by assumption)) rfl d_Mdl_touched_23 ?_
        refine lv_goto (tgt := 28) hx hb d_Mdl_touched_24 rfl ?_
        exact rt_vs X hr hk hP hS (by rw [f_Mdl_touched, if_neg h1, if_neg h2, if_neg h3]) d_Mdl_touched_28
set_option maxHeartbeats 4000000 in
set_option maxRecDepth 100000 in
theorem c_Mdl_steps (l : Launch) (D : va_G) (cB cI : ClassId) (a : Nat → Nat) (bz : Nat) (ha : ap a 3) (S : Sc) : MI l y_Mdl_steps b_Mdl_steps 1 (some .int) rm_Mdl_steps [.ref (a 0)] D cB cI (wdT cI a) (ow a 3) bz S (f_Mdl_steps S, S) := by
  refine met_in R_Mdl (by decide) rfl (Nat.le_of_ble_eq_true rfl) (wdT_D ha cI) ?_
  intro p e s m below meth c ls X hr hk hl hP hS
  have hx := X.1.1
  have hb := X.1.2.1
  have hown := X.1.2.2.2.1
  have hts := X.1.2.2.2.2
  have hl : lv_has ls 1 [(0, .ref (a 0))] := hl
  refine lv_aload_n hx hb d_Mdl_steps_0 rfl (lv_at hl 0 rfl) ?_
  refine gt_Mdl X hP 13 (by decide) (v := .int (S.1 12)) q_576 rfl d_Mdl_steps_1 ?_
  exact rt_vs X hr hk hP hS (by rw [f_Mdl_steps]) d_Mdl_steps_4
