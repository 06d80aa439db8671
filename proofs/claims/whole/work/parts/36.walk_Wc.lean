set_option maxHeartbeats 4000000 in
set_option maxRecDepth 100000 in
theorem c_Wc_poke (l : Launch) (D : va_G) (cB cI : ClassId) (a : Nat → Nat) (bz : Nat) (ha : ap a 8) (S : Sc) (x1 x2 x3 : Int32) : MI l y_Wc_poke b_Wc_poke 5 (some .boolean) rm_Wc_poke [.ref (a 0), .int x1, .int x2, .int x3] D cB cI (wdC cB cI a) (ow a 8) bz S (f_Wc_poke S x1 x2 x3) := by
  refine met_in R_Wc (by decide) rfl (Nat.le_of_ble_eq_true rfl) (wdC_D ha cB cI) ?_
  intro p e s m below meth c ls X hr hk hl hP hS
  have hx := X.1.1
  have hb := X.1.2.1
  have hown := X.1.2.2.2.1
  have hts := X.1.2.2.2.2
  have hl : lv_has ls 5 [(0, .ref (a 0)), (1, .int x1), (2, .int x2), (3, .int x3)] := hl
  refine lv_iload_n hx hb d_Wc_poke_0 rfl (lv_at hl 3 rfl) ?_
  refine lv_iconst (v := (1 : Int32)) hx hb d_Wc_poke_1 (by decide) ?_
  refine lv_icmp_lt (tgt := 23) hx hb d_Wc_poke_2 rfl (fun h1 => ?_) (fun h1 => ?_)
  ·
    refine lv_iconst (v := (0 : Int32)) hx hb d_Wc_poke_23 (by decide) ?_
    exact rt_z X hr hk hP hS (by decide) (by rw [f_Wc_poke, if_pos h1]) d_Wc_poke_24
  ·
    refine lv_iload_n hx hb d_Wc_poke_5 rfl (lv_at hl 3 rfl) ?_
    refine lv_iconst (v := (4 : Int32)) hx hb d_Wc_poke_6 (by decide) ?_
    refine lv_icmp_gt (tgt := 23) hx hb d_Wc_poke_7 rfl (fun h2 => ?_) (fun h2 => ?_)
    ·
      refine lv_iconst (v := (0 : Int32)) hx hb d_Wc_poke_23 (by decide) ?_
      exact rt_z X hr hk hP hS (by decide) (by rw [f_Wc_poke, if_neg h1, if_pos h2]) d_Wc_poke_24
    ·
      refine lv_iload_n hx hb d_Wc_poke_10 rfl (lv_at hl 1 rfl) ?_
      refine lv_if_lt (tgt := 23) hx hb d_Wc_poke_11 rfl (fun h3 => ?_) (fun h3 => ?_)
      ·
        refine lv_iconst (v := (0 : Int32)) hx hb d_Wc_poke_23 (by decide) ?_
        exact rt_z X hr hk hP hS (by decide) (by rw [f_Wc_poke, if_neg h1, if_neg h2, if_pos h3]) d_Wc_poke_24
      ·
        refine lv_iload_n hx hb d_Wc_poke_14 rfl (lv_at hl 1 rfl) ?_
        refine lv_sipush (v := (1024 : Int32)) hx hb d_Wc_poke_15 (by decide) ?_
        refine lv_iload_n hx hb d_Wc_poke_18 rfl (lv_at hl 3 rfl) ?_
        refine lv_isub hx hb d_Wc_poke_19 ?_
        refine lv_icmp_le (tgt := 25) hx hb d_Wc_poke_20 rfl (fun h4 => ?_) (fun h4 => ?_)
        ·
          refine lv_iconst (v := (0 : Int32)) hx hb d_Wc_poke_25 (by decide) ?_
          refine lv_istore hx hb d_Wc_poke_26 hl (Nat.le_of_ble_eq_true rfl) rfl (fun ls hl => ?_)
          have hl : lv_has ls 5 [(4, .int ((0 : Int32))), (0, .ref (a 0)), (1, .int (x1)), (2, .int (x2)), (3, .int (x3))] := hl
          refine lv_iload hx hb d_Wc_poke_28 (lv_at hl 0 rfl) ?_
          refine lv_iload_n hx hb d_Wc_poke_30 rfl (lv_at hl 4 rfl) ?_
          refine lv_icmp_ge (tgt := 60) hx hb d_Wc_poke_31 rfl (fun h5 => ?_) (fun h5 => ?_)
          ·
            refine lv_iconst (v := (1 : Int32)) hx hb d_Wc_poke_60 (by decide) ?_
            exact rt_z X hr hk hP hS (by decide) (by rw [f_Wc_poke, if_neg h1, if_neg h2, if_neg h3, if_pos h4, if_pos h5]) d_Wc_poke_61
          ·
            refine lv_aload_n hx hb d_Wc_poke_34 rfl (lv_at hl 1 rfl) ?_
            refine gt_Wc X hP 0 (by decide) (v := .ref (a 1)) q_223 rfl d_Wc_poke_35 ?_
            refine gt_Bus X hP 0 (by decide) (v := .ref (a 6)) q_89 rfl d_Wc_poke_38 ?_
            refine lv_iload_n hx hb d_Wc_poke_41 rfl (lv_at hl 2 rfl) ?_
            refine lv_iload hx hb d_Wc_poke_42 (lv_at hl 0 rfl) ?_
            refine lv_iadd hx hb d_Wc_poke_44 ?_
            refine lv_iload_n hx hb d_Wc_poke_45 rfl (lv_at hl 3 rfl) ?_
            refine lv_bipush (v := (8 : Int32)) hx hb d_Wc_poke_46 (by decide) ?_
            refine lv_iload hx hb d_Wc_poke_48 (lv_at hl 0 rfl) ?_
            refine lv_imul hx hb d_Wc_poke_50 ?_
            refine lv_ishr hx hb d_Wc_poke_51 ?_
            refine lv_i2b hx hb d_Wc_poke_52 rfl ?_
            refine wrb_ X hP hS 6 rfl (S1 := (pm S (((x1 + (0 : Int32))).toNatClampNeg) (vp_nar .byte (((x2 >>> (((8 : Int32) * (0 : Int32)) &&& 31))).toInt8.toInt32)))) (in_poke (n := x3) (by decide) (by assumption) (by assumption) (by assumption) (by assumption)) rfl d_Wc_poke_53 (fun H locs hP hS => ?_)
            refine lv_iinc (k := 0) (v := (1 : Int32)) hx hb d_Wc_poke_54 hl rfl (by decide) (Nat.le_of_ble_eq_true rfl) rfl (fun ls hl => ?_)
            have hl : lv_has ls 5 [(4, .int ((1 : Int32))), (0, .ref (a 0)), (1, .int (x1)), (2, .int (x2)), (3, .int (x3))] := hl
            refine lv_goto (tgt := 28) hx hb d_Wc_poke_57 rfl ?_
            refine lv_iload hx hb d_Wc_poke_28 (lv_at hl 0 rfl) ?_
            refine lv_iload_n hx hb d_Wc_poke_30 rfl (lv_at hl 4 rfl) ?_
            refine lv_icmp_ge (tgt := 60) hx hb d_Wc_poke_31 rfl (fun h6 => ?_) (fun h6 => ?_)
            ·
              refine lv_iconst (v := (1 : Int32)) hx hb d_Wc_poke_60 (by decide) ?_
              exact rt_z X hr hk hP hS (by decide) (by rw [f_Wc_poke, if_neg h1, if_neg h2, if_neg h3, if_pos h4, if_neg h5, if_pos h6]) d_Wc_poke_61
            ·
              refine lv_aload_n hx hb d_Wc_poke_34 rfl (lv_at hl 1 rfl) ?_
              refine gt_Wc X hP 0 (by decide) (v := .ref (a 1)) q_223 rfl d_Wc_poke_35 ?_
              refine gt_Bus X hP 0 (by decide) (v := .ref (a 6)) q_89 rfl d_Wc_poke_38 ?_
              refine lv_iload_n hx hb d_Wc_poke_41 rfl (lv_at hl 2 rfl) ?_
              refine lv_iload hx hb d_Wc_poke_42 (lv_at hl 0 rfl) ?_
              refine lv_iadd hx hb d_Wc_poke_44 ?_
              refine lv_iload_n hx hb d_Wc_poke_45 rfl (lv_at hl 3 rfl) ?_
              refine lv_bipush (v := (8 : Int32)) hx hb d_Wc_poke_46 (by decide) ?_
              refine lv_iload hx hb d_Wc_poke_48 (lv_at hl 0 rfl) ?_
              refine lv_imul hx hb d_Wc_poke_50 ?_
              refine lv_ishr hx hb d_Wc_poke_51 ?_
              refine lv_i2b hx hb d_Wc_poke_52 rfl ?_
              refine wrb_ X hP hS 6 rfl (S1 := (pm (pm S (((x1 + (0 : Int32))).toNatClampNeg) (vp_nar .byte (((x2 >>> (((8 : Int32) * (0 : Int32)) &&& 31))).toInt8.toInt32))) (((x1 + (1 : Int32))).toNatClampNeg) (vp_nar .byte (((x2 >>> (((8 : Int32) * (1 : Int32)) &&& 31))).toInt8.toInt32)))) (in_poke (n := x3) (by decide) (by assumption) (by assumption) (by assumption) (by assumption)) rfl d_Wc_poke_53 (fun H locs hP hS => ?_)
              refine lv_iinc (k := 0) (v := (2 : Int32)) hx hb d_Wc_poke_54 hl rfl (by decide) (Nat.le_of_ble_eq_true rfl) rfl (fun ls hl => ?_)
              have hl : lv_has ls 5 [(4, .int ((2 : Int32))), (0, .ref (a 0)), (1, .int (x1)), (2, .int (x2)), (3, .int (x3))] := hl
              refine lv_goto (tgt := 28) hx hb d_Wc_poke_57 rfl ?_
              refine lv_iload hx hb d_Wc_poke_28 (lv_at hl 0 rfl) ?_
              refine lv_iload_n hx hb d_Wc_poke_30 rfl (lv_at hl 4 rfl) ?_
              refine lv_icmp_ge (tgt := 60) hx hb d_Wc_poke_31 rfl (fun h7 => ?_) (fun h7 => ?_)
              ·
                refine lv_iconst (v := (1 : Int32)) hx hb d_Wc_poke_60 (by decide) ?_
                exact rt_z X hr hk hP hS (by decide) (by rw [f_Wc_poke, if_neg h1, if_neg h2, if_neg h3, if_pos h4, if_neg h5, if_neg h6, if_pos h7]) d_Wc_poke_61
              ·
                refine lv_aload_n hx hb d_Wc_poke_34 rfl (lv_at hl 1 rfl) ?_
                refine gt_Wc X hP 0 (by decide) (v := .ref (a 1)) q_223 rfl d_Wc_poke_35 ?_
                refine gt_Bus X hP 0 (by decide) (v := .ref (a 6)) q_89 rfl d_Wc_poke_38 ?_
                refine lv_iload_n hx hb d_Wc_poke_41 rfl (lv_at hl 2 rfl) ?_
                refine lv_iload hx hb d_Wc_poke_42 (lv_at hl 0 rfl) ?_
                refine lv_iadd hx hb d_Wc_poke_44 ?_
                refine lv_iload_n hx hb d_Wc_poke_45 rfl (lv_at hl 3 rfl) ?_
                refine lv_bipush (v := (8 : Int32)) hx hb d_Wc_poke_46 (by decide) ?_
                refine lv_iload hx hb d_Wc_poke_48 (lv_at hl 0 rfl) ?_
                refine lv_imul hx hb d_Wc_poke_50 ?_
                refine lv_ishr hx hb d_Wc_poke_51 ?_
                refine lv_i2b hx hb d_Wc_poke_52 rfl ?_
                refine wrb_ X hP hS 6 rfl (S1 := (pm (pm (pm S (((x1 + (0 : Int32))).toNatClampNeg) (vp_nar .byte (((x2 >>> (((8 : Int32) * (0 : Int32)) &&& 31))).toInt8.toInt32))) (((x1 + (1 : Int32))).toNatClampNeg) (vp_nar .byte (((x2 >>> (((8 : Int32) * (1 : Int32)) &&& 31))).toInt8.toInt32))) (((x1 + (2 : Int32))).toNatClampNeg) (vp_nar .byte (((x2 >>> (((8 : Int32) * (2 : Int32)) &&& 31))).toInt8.toInt32)))) (in_poke (n := x3) (by decide) (by assumption) (by assumption) (by assumption) (by assumption)) rfl d_Wc_poke_53 (fun H locs hP hS => ?_)
                refine lv_iinc (k := 0) (v := (3 : Int32)) hx hb d_Wc_poke_54 hl rfl (by decide) (Nat.le_of_ble_eq_true rfl) rfl (fun ls hl => ?_)
                have hl : lv_has ls 5 [(4, .int ((3 : Int32))), (0, .ref (a 0)), (1, .int (x1)), (2, .int (x2)), (3, .int (x3))] := hl
                refine lv_goto (tgt := 28) hx hb d_Wc_poke_57 rfl ?_
                refine lv_iload hx hb d_Wc_poke_28 (lv_at hl 0 rfl) ?_
                refine lv_iload_n hx hb d_Wc_poke_30 rfl (lv_at hl 4 rfl) ?_
                refine lv_icmp_ge (tgt := 60) hx hb d_Wc_poke_31 rfl (fun h8 => ?_) (fun h8 => ?_)
                ·
                  refine lv_iconst (v := (1 : Int32)) hx hb d_Wc_poke_60 (by decide) ?_
                  exact rt_z X hr hk hP hS (by decide) (by rw [f_Wc_poke, if_neg h1, if_neg h2, if_neg h3, if_pos h4, if_neg h5, if_neg h6, if_neg h7, if_pos h8]) d_Wc_poke_61
                ·
                  refine lv_aload_n hx hb d_Wc_poke_34 rfl (lv_at hl 1 rfl) ?_
                  refine gt_Wc X hP 0 (by decide) (v := .ref (a 1)) q_223 rfl d_Wc_poke_35 ?_
                  refine gt_Bus X hP 0 (by decide) (v := .ref (a 6)) q_89 rfl d_Wc_poke_38 ?_
                  refine lv_iload_n hx hb d_Wc_poke_41 rfl (lv_at hl 2 rfl) ?_
                  refine lv_iload hx hb d_Wc_poke_42 (lv_at hl 0 rfl) ?_
                  refine lv_iadd hx hb d_Wc_poke_44 ?_
                  refine lv_iload_n hx hb d_Wc_poke_45 rfl (lv_at hl 3 rfl) ?_
                  refine lv_bipush (v := (8 : Int32)) hx hb d_Wc_poke_46 (by decide) ?_
                  refine lv_iload hx hb d_Wc_poke_48 (lv_at hl 0 rfl) ?_
                  refine lv_imul hx hb d_Wc_poke_50 ?_
                  refine lv_ishr hx hb d_Wc_poke_51 ?_
                  refine lv_i2b hx hb d_Wc_poke_52 rfl ?_
                  refine wrb_ X hP hS 6 rfl (S1 := (pm (pm (pm (pm S (((x1 + (0 : Int32))).toNatClampNeg) (vp_nar .byte (((x2 >>> (((8 : Int32) * (0 : Int32)) &&& 31))).toInt8.toInt32))) (((x1 + (1 : Int32))).toNatClampNeg) (vp_nar .byte (((x2 >>> (((8 : Int32) * (1 : Int32)) &&& 31))).toInt8.toInt32))) (((x1 + (2 : Int32))).toNatClampNeg) (vp_nar .byte (((x2 >>> (((8 : Int32) * (2 : Int32)) &&& 31))).toInt8.toInt32))) (((x1 + (3 : Int32))).toNatClampNeg) (vp_nar .byte (((x2 >>> (((8 : Int32) * (3 : Int32)) &&& 31))).toInt8.toInt32)))) (in_poke (n := x3) (by decide) (by assumption) (by assumption) (by assumption) (by assumption)) rfl d_Wc_poke_53 (fun H locs hP hS => ?_)
                  refine lv_iinc (k := 0) (v := (4 : Int32)) hx hb d_Wc_poke_54 hl rfl (by decide) (Nat.le_of_ble_eq_true rfl) rfl (fun ls hl => ?_)
                  have hl : lv_has ls 5 [(4, .int ((4 : Int32))), (0, .ref (a 0)), (1, .int (x1)), (2, .int (x2)), (3, .int (x3))] := hl
                  refine lv_goto (tgt := 28) hx hb d_Wc_poke_57 rfl ?_
                  refine lv_iload hx hb d_Wc_poke_28 (lv_at hl 0 rfl) ?_
                  refine lv_iload_n hx hb d_Wc_poke_30 rfl (lv_at hl 4 rfl) ?_
                  refine lv_icmp_ge (tgt := 60) hx hb d_Wc_poke_31 rfl (fun _ => ?_) (fun h => absurd (Int32.not_lt.mp h2) h)
                  refine lv_iconst (v := (1 : Int32)) hx hb d_Wc_poke_60 (by decide) ?_
                  exact rt_z X hr hk hP hS (by decide) (by rw [f_Wc_poke, if_neg h1, if_neg h2, if_neg h3, if_pos h4, if_neg h5, if_neg h6, if_neg h7, if_neg h8]) d_Wc_poke_61
        ·
          refine lv_iconst (v := (0 : Int32)) hx hb d_Wc_poke_23 (by decide) ?_
          exact rt_z X hr hk hP hS (by decide) (by rw [f_Wc_poke, if_neg h1, if_neg h2, if_neg h3, if_neg h4]) d_Wc_poke_24
set_option maxHeartbeats 4000000 in
set_option maxRecDepth 100000 in
theorem c_Wc_peek (l : Launch) (D : va_G) (cB cI : ClassId) (a : Nat → Nat) (bz : Nat) (ha : ap a 8) (S : Sc) (x1 : Int32) : MI l y_Wc_peek b_Wc_peek 2 (some .int) rm_Wc_peek [.ref (a 0), .int x1] D cB cI (wdC cB cI a) (ow a 8) bz S (f_Wc_peek S x1, S) := by
  refine met_in R_Wc (by decide) rfl (Nat.le_of_ble_eq_true rfl) (wdC_D ha cB cI) ?_
  intro p e s m below meth c ls X hr hk hl hP hS
  have hx := X.1.1
  have hb := X.1.2.1
  have hown := X.1.2.2.2.1
  have hts := X.1.2.2.2.2
  have hl : lv_has ls 2 [(0, .ref (a 0)), (1, .int x1)] := hl
  refine lv_iload_n hx hb d_Wc_peek_0 rfl (lv_at hl 1 rfl) ?_
  refine lv_if_lt (tgt := 11) hx hb d_Wc_peek_1 rfl (fun h1 => ?_) (fun h1 => ?_)
  ·
    refine lv_iconst (v := (-1 : Int32)) hx hb d_Wc_peek_11 (by decide) ?_
    refine lv_goto (tgt := 28) hx hb d_Wc_peek_12 rfl ?_
    exact rt_vs X hr hk hP hS (by rw [f_Wc_peek, if_pos h1]) d_Wc_peek_28
  ·
    refine lv_iload_n hx hb d_Wc_peek_4 rfl (lv_at hl 1 rfl) ?_
    refine lv_sipush (v := (1024 : Int32)) hx hb d_Wc_peek_5 (by decide) ?_
    refine lv_icmp_lt (tgt := 15) hx hb d_Wc_peek_8 rfl (fun h2 => ?_) (fun h2 => ?_)
    ·
      refine lv_aload_n hx hb d_Wc_peek_15 rfl (lv_at hl 0 rfl) ?_
      refine gt_Wc X hP 0 (by decide) (v := .ref (a 1)) q_223 rfl d_Wc_peek_16 ?_
      refine gt_Bus X hP 0 (by decide) (v := .ref (a 6)) q_89 rfl d_Wc_peek_19 ?_
      refine lv_iload_n hx hb d_Wc_peek_22 rfl (lv_at hl 1 rfl) ?_
      refine rdb_ X hP 6 rfl (v := S.2.1 (x1).toNatClampNeg) (in_peek2 (by assumption) (by assumption)) rfl d_Wc_peek_23 ?_
      refine lv_sipush (v := (255 : Int32)) hx hb d_Wc_peek_24 (by decide) ?_
      refine lv_iand hx hb d_Wc_peek_27 ?_
      exact rt_vs X hr hk hP hS (by rw [f_Wc_peek, if_neg h1, if_pos h2]) d_Wc_peek_28
    ·
      refine lv_iconst (v := (-1 : Int32)) hx hb d_Wc_peek_11 (by decide) ?_
      refine lv_goto (tgt := 28) hx hb d_Wc_peek_12 rfl ?_
      exact rt_vs X hr hk hP hS (by rw [f_Wc_peek, if_neg h1, if_neg h2]) d_Wc_peek_28
set_option maxHeartbeats 4000000 in
set_option maxRecDepth 100000 in
theorem c_Wc_start (l : Launch) (D : va_G) (cB cI : ClassId) (a : Nat → Nat) (bz : Nat) (ha : ap a 8) (S : Sc) (x1 x2 : Int32) : MI l y_Wc_start b_Wc_start 3 (some .boolean) rm_Wc_start [.ref (a 0), .int x1, .int x2] D cB cI (wdC cB cI a) (ow a 8) bz S (f_Wc_start S x1 x2) := by
  refine met_in R_Wc (by decide) rfl (Nat.le_of_ble_eq_true rfl) (wdC_D ha cB cI) ?_
  intro p e s m below meth c ls X hr hk hl hP hS
  have hx := X.1.1
  have hb := X.1.2.1
  have hown := X.1.2.2.2.1
  have hts := X.1.2.2.2.2
  have hl : lv_has ls 3 [(0, .ref (a 0)), (1, .int x1), (2, .int x2)] := hl
  refine lv_iload_n hx hb d_Wc_start_0 rfl (lv_at hl 1 rfl) ?_
  refine lv_if_lt (tgt := 21) hx hb d_Wc_start_1 rfl (fun h1 => ?_) (fun h1 => ?_)
  ·
    refine lv_iconst (v := (0 : Int32)) hx hb d_Wc_start_21 (by decide) ?_
    exact rt_z X hr hk hP hS (by decide) (by rw [f_Wc_start, if_pos h1]) d_Wc_start_22
  ·
    refine lv_iload_n hx hb d_Wc_start_4 rfl (lv_at hl 1 rfl) ?_
    refine lv_sipush (v := (255 : Int32)) hx hb d_Wc_start_5 (by decide) ?_
    refine lv_icmp_gt (tgt := 21) hx hb d_Wc_start_8 rfl (fun h2 => ?_) (fun h2 => ?_)
    ·
      refine lv_iconst (v := (0 : Int32)) hx hb d_Wc_start_21 (by decide) ?_
      exact rt_z X hr hk hP hS (by decide) (by rw [f_Wc_start, if_neg h1, if_pos h2]) d_Wc_start_22
    ·
      refine lv_iload_n hx hb d_Wc_start_11 rfl (lv_at hl 2 rfl) ?_
      refine lv_if_lt (tgt := 21) hx hb d_Wc_start_12 rfl (fun h3 => ?_) (fun h3 => ?_)
      ·
        refine lv_iconst (v := (0 : Int32)) hx hb d_Wc_start_21 (by decide) ?_
        exact rt_z X hr hk hP hS (by decide) (by rw [f_Wc_start, if_neg h1, if_neg h2, if_pos h3]) d_Wc_start_22
      ·
        refine lv_iload_n hx hb d_Wc_start_15 rfl (lv_at hl 2 rfl) ?_
        refine lv_ldc (v := (65535 : Int32)) hx hb hown (hts _ q_245) d_Wc_start_16 ?_
        refine lv_icmp_le (tgt := 23) hx hb d_Wc_start_18 rfl (fun h4 => ?_) (fun h4 => ?_)
        ·
          refine lv_aload_n hx hb d_Wc_start_23 rfl (lv_at hl 0 rfl) ?_
          refine gt_Wc X hP 1 (by decide) (v := .ref (a 2)) q_224 rfl d_Wc_start_24 ?_
          refine lv_iload_n hx hb d_Wc_start_27 rfl (lv_at hl 1 rfl) ?_
          refine pt_Reg X hP hS 6 (by decide) (v := x1) (S1 := (pr S 6 (x1))) q_134 rfl rfl rfl rfl d_Wc_start_28 (fun H locs hP hS => ?_)
          refine lv_aload_n hx hb d_Wc_start_31 rfl (lv_at hl 0 rfl) ?_
          refine gt_Wc X hP 1 (by decide) (v := .ref (a 2)) q_224 rfl d_Wc_start_32 ?_
          refine lv_iload_n hx hb d_Wc_start_35 rfl (lv_at hl 2 rfl) ?_
          refine pt_Reg X hP hS 7 (by decide) (v := x2) (S1 := (pr (pr S 6 (x1)) 7 (x2))) q_138 rfl rfl rfl rfl d_Wc_start_36 (fun H locs hP hS => ?_)
          refine lv_aload_n hx hb d_Wc_start_39 rfl (lv_at hl 0 rfl) ?_
          refine gt_Wc X hP 2 (by decide) (v := .ref (a 3)) q_225 rfl d_Wc_start_40 ?_
          refine lv_iconst (v := (0 : Int32)) hx hb d_Wc_start_43 (by decide) ?_
          refine pt_Prc X hP hS 6 (by decide) (v := (0 : Int32)) (S1 := (pr (pr (pr S 6 (x1)) 7 (x2)) 12 ((0 : Int32)))) q_203 rfl (by decide) rfl rfl d_Wc_start_44 (fun H locs hP hS => ?_)
          refine lv_iconst (v := (1 : Int32)) hx hb d_Wc_start_47 (by decide) ?_
          exact rt_z X hr hk hP hS (by decide) (by rw [f_Wc_start, if_neg h1, if_neg h2, if_neg h3, if_pos h4]) d_Wc_start_48
        ·
          refine lv_iconst (v := (0 : Int32)) hx hb d_Wc_start_21 (by decide) ?_
          exact rt_z X hr hk hP hS (by decide) (by rw [f_Wc_start, if_neg h1, if_neg h2, if_neg h3, if_neg h4]) d_Wc_start_22
set_option maxHeartbeats 4000000 in
set_option maxRecDepth 100000 in
theorem c_Wc_set (l : Launch) (D : va_G) (cB cI : ClassId) (a : Nat → Nat) (bz : Nat) (ha : ap a 8) (S : Sc) (x1 x2 : Int32) : MI l y_Wc_set b_Wc_set 3 (some .boolean) rm_Wc_set [.ref (a 0), .int x1, .int x2] D cB cI (wdC cB cI a) (ow a 8) bz S (f_Wc_set S x1 x2) := by
  refine met_in R_Wc (by decide) rfl (Nat.le_of_ble_eq_true rfl) (wdC_D ha cB cI) ?_
  intro p e s m below meth c ls X hr hk hl hP hS
  have hx := X.1.1
  have hb := X.1.2.1
  have hown := X.1.2.2.2.1
  have hts := X.1.2.2.2.2
  have hl : lv_has ls 3 [(0, .ref (a 0)), (1, .int x1), (2, .int x2)] := hl
  refine lv_iload_n hx hb d_Wc_set_0 rfl (lv_at hl 1 rfl) ?_
  by_cases h1 : x1 = (0 : Int32)
  ·
    refine sw_t (k := (0 : Int32)) (tgt := 44) hx hb d_Wc_set_1 h1 rfl ?_
    refine lv_aload_n hx hb d_Wc_set_44 rfl (lv_at hl 0 rfl) ?_
    refine gt_Wc X hP 1 (by decide) (v := .ref (a 2)) q_224 rfl d_Wc_set_45 ?_
    refine lv_iload_n hx hb d_Wc_set_48 rfl (lv_at hl 2 rfl) ?_
    refine lv_ldc (v := (65535 : Int32)) hx hb hown (hts _ q_245) d_Wc_set_49 ?_
    refine lv_iand hx hb d_Wc_set_51 ?_
    refine pt_Reg X hP hS 0 (by decide) (v := (x2 &&& (65535 : Int32))) (S1 := (pr S 0 ((x2 &&& (65535 : Int32))))) q_109 rfl rfl rfl rfl d_Wc_set_52 (fun H locs hP hS => ?_)
    refine lv_goto (tgt := 156) hx hb d_Wc_set_55 rfl ?_
    refine lv_iconst (v := (1 : Int32)) hx hb d_Wc_set_156 (by decide) ?_
    exact rt_z X hr hk hP hS (by decide) (by rw [f_Wc_set, if_pos h1]) d_Wc_set_157
  ·
    by_cases h2 : x1 = (1 : Int32)
    ·
      refine sw_t (k := (1 : Int32)) (tgt := 58) hx hb d_Wc_set_1 h2 rfl ?_
      refine lv_aload_n hx hb d_Wc_set_58 rfl (lv_at hl 0 rfl) ?_
      refine gt_Wc X hP 1 (by decide) (v := .ref (a 2)) q_224 rfl d_Wc_set_59 ?_
      refine lv_iload_n hx hb d_Wc_set_62 rfl (lv_at hl 2 rfl) ?_
      refine lv_aload_n hx hb d_Wc_set_63 rfl (lv_at hl 0 rfl) ?_
      refine gt_Wc X hP 1 (by decide) (v := .ref (a 2)) q_224 rfl d_Wc_set_64 ?_
      refine kv_v (rest := [.int (x2), .ref (a 2)]) X hP hS (c_Reg_indexMask l D cB cI a bz ha S) (kw_Reg_indexMask hts q_250 ⟨Nat.le_of_ble_eq_true rfl, Nat.le_of_ble_eq_true rfl⟩) 2 rfl rfl rfl hl.1 rfl (lv_room (Nat.le_of_ble_eq_true rfl)) d_Wc_set_67 (fun H locs hP hS => ?_)
      refine lv_iand hx hb d_Wc_set_70 ?_
      refine pt_Reg X hP hS 1 (by decide) (v := (x2 &&& (f_Reg_indexMask S))) (S1 := (pr S 1 ((x2 &&& (f_Reg_indexMask S))))) q_111 rfl rfl rfl rfl d_Wc_set_71 (fun H locs hP hS => ?_)
      refine lv_goto (tgt := 156) hx hb d_Wc_set_74 rfl ?_
      refine lv_iconst (v := (1 : Int32)) hx hb d_Wc_set_156 (by decide) ?_
      exact rt_z X hr hk hP hS (by decide) (by rw [f_Wc_set, if_neg h1, if_pos h2]) d_Wc_set_157
    ·
      by_cases h3 : x1 = (2 : Int32)
      ·
        refine sw_t (k := (2 : Int32)) (tgt := 77) hx hb d_Wc_set_1 h3 rfl ?_
        refine lv_aload_n hx hb d_Wc_set_77 rfl (lv_at hl 0 rfl) ?_
        refine gt_Wc X hP 1 (by decide) (v := .ref (a 2)) q_224 rfl d_Wc_set_78 ?_
        refine lv_iload_n hx hb d_Wc_set_81 rfl (lv_at hl 2 rfl) ?_
        refine lv_aload_n hx hb d_Wc_set_82 rfl (lv_at hl 0 rfl) ?_
        refine gt_Wc X hP 1 (by decide) (v := .ref (a 2)) q_224 rfl d_Wc_set_83 ?_
        refine kv_v (rest := [.int (x2), .ref (a 2)]) X hP hS (c_Reg_indexMask l D cB cI a bz ha S) (kw_Reg_indexMask hts q_250 ⟨Nat.le_of_ble_eq_true rfl, Nat.le_of_ble_eq_true rfl⟩) 2 rfl rfl rfl hl.1 rfl (lv_room (Nat.le_of_ble_eq_true rfl)) d_Wc_set_86 (fun H locs hP hS => ?_)
        refine lv_iand hx hb d_Wc_set_89 ?_
        refine pt_Reg X hP hS 2 (by decide) (v := (x2 &&& (f_Reg_indexMask S))) (S1 := (pr S 2 ((x2 &&& (f_Reg_indexMask S))))) q_115 rfl rfl rfl rfl d_Wc_set_90 (fun H locs hP hS => ?_)
        refine lv_goto (tgt := 156) hx hb d_Wc_set_93 rfl ?_
        refine lv_iconst (v := (1 : Int32)) hx hb d_Wc_set_156 (by decide) ?_
        exact rt_z X hr hk hP hS (by decide) (by rw [f_Wc_set, if_neg h1, if_neg h2, if_pos h3]) d_Wc_set_157
      ·
        by_cases h4 : x1 = (3 : Int32)
        ·
          refine sw_t (k := (3 : Int32)) (tgt := 96) hx hb d_Wc_set_1 h4 rfl ?_
          refine lv_aload_n hx hb d_Wc_set_96 rfl (lv_at hl 0 rfl) ?_
          refine gt_Wc X hP 1 (by decide) (v := .ref (a 2)) q_224 rfl d_Wc_set_97 ?_
          refine lv_iload_n hx hb d_Wc_set_100 rfl (lv_at hl 2 rfl) ?_
          refine lv_ldc (v := (65535 : Int32)) hx hb hown (hts _ q_245) d_Wc_set_101 ?_
          refine lv_iand hx hb d_Wc_set_103 ?_
          refine pt_Reg X hP hS 3 (by decide) (v := (x2 &&& (65535 : Int32))) (S1 := (pr S 3 ((x2 &&& (65535 : Int32))))) q_121 rfl rfl rfl rfl d_Wc_set_104 (fun H locs hP hS => ?_)
          refine lv_goto (tgt := 156) hx hb d_Wc_set_107 rfl ?_
          refine lv_iconst (v := (1 : Int32)) hx hb d_Wc_set_156 (by decide) ?_
          exact rt_z X hr hk hP hS (by decide) (by rw [f_Wc_set, if_neg h1, if_neg h2, if_neg h3, if_pos h4]) d_Wc_set_157
        ·
          by_cases h5 : x1 = (4 : Int32)
          ·
            refine sw_t (k := (4 : Int32)) (tgt := 110) hx hb d_Wc_set_1 h5 rfl ?_
            refine lv_aload_n hx hb d_Wc_set_110 rfl (lv_at hl 0 rfl) ?_
            refine gt_Wc X hP 1 (by decide) (v := .ref (a 2)) q_224 rfl d_Wc_set_111 ?_
            refine lv_iload_n hx hb d_Wc_set_114 rfl (lv_at hl 2 rfl) ?_
            refine lv_ldc (v := (65535 : Int32)) hx hb hown (hts _ q_245) d_Wc_set_115 ?_
            refine lv_iand hx hb d_Wc_set_117 ?_
            refine pt_Reg X hP hS 4 (by decide) (v := (x2 &&& (65535 : Int32))) (S1 := (pr S 4 ((x2 &&& (65535 : Int32))))) q_124 rfl rfl rfl rfl d_Wc_set_118 (fun H locs hP hS => ?_)
            refine lv_goto (tgt := 156) hx hb d_Wc_set_121 rfl ?_
            refine lv_iconst (v := (1 : Int32)) hx hb d_Wc_set_156 (by decide) ?_
            exact rt_z X hr hk hP hS (by decide) (by rw [f_Wc_set, if_neg h1, if_neg h2, if_neg h3, if_neg h4, if_pos h5]) d_Wc_set_157
          ·
            by_cases h6 : x1 = (5 : Int32)
            ·
              refine sw_t (k := (5 : Int32)) (tgt := 124) hx hb d_Wc_set_1 h6 rfl ?_
              refine lv_aload_n hx hb d_Wc_set_124 rfl (lv_at hl 0 rfl) ?_
              refine gt_Wc X hP 1 (by decide) (v := .ref (a 2)) q_224 rfl d_Wc_set_125 ?_
              refine lv_iload_n hx hb d_Wc_set_128 rfl (lv_at hl 2 rfl) ?_
              refine lv_sipush (v := (255 : Int32)) hx hb d_Wc_set_129 (by decide) ?_
              refine lv_iand hx hb d_Wc_set_132 ?_
              refine pt_Reg X hP hS 5 (by decide) (v := (x2 &&& (255 : Int32))) (S1 := (pr S 5 ((x2 &&& (255 : Int32))))) q_128 rfl rfl rfl rfl d_Wc_set_133 (fun H locs hP hS => ?_)
              refine lv_goto (tgt := 156) hx hb d_Wc_set_136 rfl ?_
              refine lv_iconst (v := (1 : Int32)) hx hb d_Wc_set_156 (by decide) ?_
              exact rt_z X hr hk hP hS (by decide) (by rw [f_Wc_set, if_neg h1, if_neg h2, if_neg h3, if_neg h4, if_neg h5, if_pos h6]) d_Wc_set_157
            ·
              by_cases h7 : x1 = (6 : Int32)
              ·
                refine sw_t (k := (6 : Int32)) (tgt := 139) hx hb d_Wc_set_1 h7 rfl ?_
                refine lv_aload_n hx hb d_Wc_set_139 rfl (lv_at hl 0 rfl) ?_
                refine gt_Wc X hP 1 (by decide) (v := .ref (a 2)) q_224 rfl d_Wc_set_140 ?_
                refine lv_iload_n hx hb d_Wc_set_143 rfl (lv_at hl 2 rfl) ?_
                refine lv_sipush (v := (255 : Int32)) hx hb d_Wc_set_144 (by decide) ?_
                refine lv_iand hx hb d_Wc_set_147 ?_
                refine kv_s (rest := []) X hP hS (c_Reg_replaceP l D cB cI a bz ha S (x2 &&& (255 : Int32))) (kw_Reg_replaceP hts q_262 ⟨Nat.le_of_ble_eq_true rfl, Nat.le_of_ble_eq_true rfl⟩) 2 rfl rfl rfl hl.1 rfl (lv_room (Nat.le_of_ble_eq_true rfl)) d_Wc_set_148 (fun S8 H locs e9 hP hS => ?_)
                refine lv_goto (tgt := 156) hx hb d_Wc_set_151 rfl ?_
                refine lv_iconst (v := (1 : Int32)) hx hb d_Wc_set_156 (by decide) ?_
                exact rt_z X hr hk hP hS (by decide) (by rw [f_Wc_set, if_neg h1, if_neg h2, if_neg h3, if_neg h4, if_neg h5, if_neg h6, if_pos h7, bs_eq e9]) d_Wc_set_157
              ·
                refine sn_t (tgt := 154) hx hb d_Wc_set_1 (by have g0 := lv_neT (a := 0) h1 rfl; have g1 := lv_neT (a := 1) h2 rfl; have g2 := lv_neT (a := 2) h3 rfl; have g3 := lv_neT (a := 3) h4 rfl; have g4 := lv_neT (a := 4) h5 rfl; have g5 := lv_neT (a := 5) h6 rfl; have g6 := lv_neT (a := 6) h7 rfl; omega) rfl ?_
                refine lv_iconst (v := (0 : Int32)) hx hb d_Wc_set_154 (by decide) ?_
                exact rt_z X hr hk hP hS (by decide) (by rw [f_Wc_set, if_neg h1, if_neg h2, if_neg h3, if_neg h4, if_neg h5, if_neg h6, if_neg h7]) d_Wc_set_155
set_option maxHeartbeats 4000000 in
set_option maxRecDepth 100000 in
theorem c_Wc_register (l : Launch) (D : va_G) (cB cI : ClassId) (a : Nat → Nat) (bz : Nat) (ha : ap a 8) (S : Sc) (x1 : Int32) : MI l y_Wc_register b_Wc_register 2 (some .int) rm_Wc_register [.ref (a 0), .int x1] D cB cI (wdC cB cI a) (ow a 8) bz S (f_Wc_register S x1, S) := by
  refine met_in R_Wc (by decide) rfl (Nat.le_of_ble_eq_true rfl) (wdC_D ha cB cI) ?_
  intro p e s m below meth c ls X hr hk hl hP hS
  have hx := X.1.1
  have hb := X.1.2.1
  have hown := X.1.2.2.2.1
  have hts := X.1.2.2.2.2
  have hl : lv_has ls 2 [(0, .ref (a 0)), (1, .int x1)] := hl
  refine lv_iload_n hx hb d_Wc_register_0 rfl (lv_at hl 1 rfl) ?_
  by_cases h1 : x1 = (0 : Int32)
  ·
    refine sw_t (k := (0 : Int32)) (tgt := 52) hx hb d_Wc_register_1 h1 rfl ?_
    refine lv_aload_n hx hb d_Wc_register_52 rfl (lv_at hl 0 rfl) ?_
    refine gt_Wc X hP 1 (by decide) (v := .ref (a 2)) q_224 rfl d_Wc_register_53 ?_
    refine gt_Reg X hP 0 (by decide) (v := .int (S.1 0)) q_109 rfl d_Wc_register_56 ?_
    refine lv_goto (tgt := 143) hx hb d_Wc_register_59 rfl ?_
    exact rt_vs X hr hk hP hS (by rw [f_Wc_register, if_pos h1]) d_Wc_register_143
  ·
    by_cases h2 : x1 = (1 : Int32)
    ·
      refine sw_t (k := (1 : Int32)) (tgt := 62) hx hb d_Wc_register_1 h2 rfl ?_
      refine lv_aload_n hx hb d_Wc_register_62 rfl (lv_at hl 0 rfl) ?_
      refine gt_Wc X hP 1 (by decide) (v := .ref (a 2)) q_224 rfl d_Wc_register_63 ?_
      refine gt_Reg X hP 1 (by decide) (v := .int (S.1 1)) q_111 rfl d_Wc_register_66 ?_
      refine lv_goto (tgt := 143) hx hb d_Wc_register_69 rfl ?_
      exact rt_vs X hr hk hP hS (by rw [f_Wc_register, if_neg h1, if_pos h2]) d_Wc_register_143
    ·
      by_cases h3 : x1 = (2 : Int32)
      ·
        refine sw_t (k := (2 : Int32)) (tgt := 72) hx hb d_Wc_register_1 h3 rfl ?_
        refine lv_aload_n hx hb d_Wc_register_72 rfl (lv_at hl 0 rfl) ?_
        refine gt_Wc X hP 1 (by decide) (v := .ref (a 2)) q_224 rfl d_Wc_register_73 ?_
        refine gt_Reg X hP 2 (by decide) (v := .int (S.1 2)) q_115 rfl d_Wc_register_76 ?_
        refine lv_goto (tgt := 143) hx hb d_Wc_register_79 rfl ?_
        exact rt_vs X hr hk hP hS (by rw [f_Wc_register, if_neg h1, if_neg h2, if_pos h3]) d_Wc_register_143
      ·
        by_cases h4 : x1 = (3 : Int32)
        ·
          refine sw_t (k := (3 : Int32)) (tgt := 82) hx hb d_Wc_register_1 h4 rfl ?_
          refine lv_aload_n hx hb d_Wc_register_82 rfl (lv_at hl 0 rfl) ?_
          refine gt_Wc X hP 1 (by decide) (v := .ref (a 2)) q_224 rfl d_Wc_register_83 ?_
          refine gt_Reg X hP 3 (by decide) (v := .int (S.1 3)) q_121 rfl d_Wc_register_86 ?_
          refine lv_goto (tgt := 143) hx hb d_Wc_register_89 rfl ?_
          exact rt_vs X hr hk hP hS (by rw [f_Wc_register, if_neg h1, if_neg h2, if_neg h3, if_pos h4]) d_Wc_register_143
        ·
          by_cases h5 : x1 = (4 : Int32)
          ·
            refine sw_t (k := (4 : Int32)) (tgt := 92) hx hb d_Wc_register_1 h5 rfl ?_
            refine lv_aload_n hx hb d_Wc_register_92 rfl (lv_at hl 0 rfl) ?_
            refine gt_Wc X hP 1 (by decide) (v := .ref (a 2)) q_224 rfl d_Wc_register_93 ?_
            refine gt_Reg X hP 4 (by decide) (v := .int (S.1 4)) q_124 rfl d_Wc_register_96 ?_
            refine lv_goto (tgt := 143) hx hb d_Wc_register_99 rfl ?_
            exact rt_vs X hr hk hP hS (by rw [f_Wc_register, if_neg h1, if_neg h2, if_neg h3, if_neg h4, if_pos h5]) d_Wc_register_143
          ·
            by_cases h6 : x1 = (5 : Int32)
            ·
              refine sw_t (k := (5 : Int32)) (tgt := 102) hx hb d_Wc_register_1 h6 rfl ?_
              refine lv_aload_n hx hb d_Wc_register_102 rfl (lv_at hl 0 rfl) ?_
              refine gt_Wc X hP 1 (by decide) (v := .ref (a 2)) q_224 rfl d_Wc_register_103 ?_
              refine gt_Reg X hP 5 (by decide) (v := .int (S.1 5)) q_128 rfl d_Wc_register_106 ?_
              refine lv_goto (tgt := 143) hx hb d_Wc_register_109 rfl ?_
              exact rt_vs X hr hk hP hS (by rw [f_Wc_register, if_neg h1, if_neg h2, if_neg h3, if_neg h4, if_neg h5, if_pos h6]) d_Wc_register_143
            ·
              by_cases h7 : x1 = (6 : Int32)
              ·
                refine sw_t (k := (6 : Int32)) (tgt := 112) hx hb d_Wc_register_1 h7 rfl ?_
                refine lv_aload_n hx hb d_Wc_register_112 rfl (lv_at hl 0 rfl) ?_
                refine gt_Wc X hP 1 (by decide) (v := .ref (a 2)) q_224 rfl d_Wc_register_113 ?_
                refine gt_Reg X hP 8 (by decide) (v := .int (S.1 8)) q_142 rfl d_Wc_register_116 ?_
                refine lv_goto (tgt := 143) hx hb d_Wc_register_119 rfl ?_
                exact rt_vs X hr hk hP hS (by rw [f_Wc_register, if_neg h1, if_neg h2, if_neg h3, if_neg h4, if_neg h5, if_neg h6, if_pos h7]) d_Wc_register_143
              ·
                by_cases h8 : x1 = (7 : Int32)
                ·
                  refine sw_t (k := (7 : Int32)) (tgt := 122) hx hb d_Wc_register_1 h8 rfl ?_
                  refine lv_aload_n hx hb d_Wc_register_122 rfl (lv_at hl 0 rfl) ?_
                  refine gt_Wc X hP 1 (by decide) (v := .ref (a 2)) q_224 rfl d_Wc_register_123 ?_
                  refine gt_Reg X hP 6 (by decide) (v := .int (S.1 6)) q_134 rfl d_Wc_register_126 ?_
                  refine lv_goto (tgt := 143) hx hb d_Wc_register_129 rfl ?_
                  exact rt_vs X hr hk hP hS (by rw [f_Wc_register, if_neg h1, if_neg h2, if_neg h3, if_neg h4, if_neg h5, if_neg h6, if_neg h7, if_pos h8]) d_Wc_register_143
                ·
                  by_cases h9 : x1 = (8 : Int32)
                  ·
                    refine sw_t (k := (8 : Int32)) (tgt := 132) hx hb d_Wc_register_1 h9 rfl ?_
                    refine lv_aload_n hx hb d_Wc_register_132 rfl (lv_at hl 0 rfl) ?_
                    refine gt_Wc X hP 1 (by decide) (v := .ref (a 2)) q_224 rfl d_Wc_register_133 ?_
                    refine gt_Reg X hP 7 (by decide) (v := .int (S.1 7)) q_138 rfl d_Wc_register_136 ?_
                    refine lv_goto (tgt := 143) hx hb d_Wc_register_139 rfl ?_
                    exact rt_vs X hr hk hP hS (by rw [f_Wc_register, if_neg h1, if_neg h2, if_neg h3, if_neg h4, if_neg h5, if_neg h6, if_neg h7, if_neg h8, if_pos h9]) d_Wc_register_143
                  ·
                    refine sn_t (tgt := 142) hx hb d_Wc_register_1 (by have g0 := lv_neT (a := 0) h1 rfl; have g1 := lv_neT (a := 1) h2 rfl; have g2 := lv_neT (a := 2) h3 rfl; have g3 := lv_neT (a := 3) h4 rfl; have g4 := lv_neT (a := 4) h5 rfl; have g5 := lv_neT (a := 5) h6 rfl; have g6 := lv_neT (a := 6) h7 rfl; have g7 := lv_neT (a := 7) h8 rfl; have g8 := lv_neT (a := 8) h9 rfl; omega) rfl ?_
                    refine lv_iconst (v := (-1 : Int32)) hx hb d_Wc_register_142 (by decide) ?_
                    exact rt_vs X hr hk hP hS (by rw [f_Wc_register, if_neg h1, if_neg h2, if_neg h3, if_neg h4, if_neg h5, if_neg h6, if_neg h7, if_neg h8, if_neg h9]) d_Wc_register_143
set_option maxHeartbeats 4000000 in
set_option maxRecDepth 100000 in
theorem c_Wc_stopped (l : Launch) (D : va_G) (cB cI : ClassId) (a : Nat → Nat) (bz : Nat) (ha : ap a 8) (S : Sc) (hz : narrow .boolean (.int (S.1 12)) = .int (S.1 12)) : MI l y_Wc_stopped b_Wc_stopped 1 (some .boolean) rm_Wc_stopped [.ref (a 0)] D cB cI (wdC cB cI a) (ow a 8) bz S (f_Wc_stopped S, S) := by
  refine met_in R_Wc (by decide) rfl (Nat.le_of_ble_eq_true rfl) (wdC_D ha cB cI) ?_
  intro p e s m below meth c ls X hr hk hl hP hS
  have hx := X.1.1
  have hb := X.1.2.1
  have hown := X.1.2.2.2.1
  have hts := X.1.2.2.2.2
  have hl : lv_has ls 1 [(0, .ref (a 0))] := hl
  refine lv_aload_n hx hb d_Wc_stopped_0 rfl (lv_at hl 0 rfl) ?_
  refine gt_Wc X hP 2 (by decide) (v := .ref (a 3)) q_225 rfl d_Wc_stopped_1 ?_
  refine gt_Prc X hP 6 (by decide) (v := .int (S.1 12)) q_203 rfl d_Wc_stopped_4 ?_
  exact rt_z X hr hk hP hS hz (by rw [f_Wc_stopped]) d_Wc_stopped_7
set_option maxHeartbeats 4000000 in
set_option maxRecDepth 100000 in
theorem c_Wc_interrupt (l : Launch) (D : va_G) (cB cI : ClassId) (a : Nat → Nat) (bz : Nat) (ha : ap a 8) (S : Sc) : MI l y_Wc_interrupt b_Wc_interrupt 1 (some .boolean) rm_Wc_interrupt [.ref (a 0)] D cB cI (wdC cB cI a) (ow a 8) bz S (f_Wc_interrupt S) := by
  refine met_in R_Wc (by decide) rfl (Nat.le_of_ble_eq_true rfl) (wdC_D ha cB cI) ?_
  intro p e s m below meth c ls X hr hk hl hP hS
  have hx := X.1.1
  have hb := X.1.2.1
  have hown := X.1.2.2.2.1
  have hts := X.1.2.2.2.2
  have hl : lv_has ls 1 [(0, .ref (a 0))] := hl
  refine lv_aload_n hx hb d_Wc_interrupt_0 rfl (lv_at hl 0 rfl) ?_
  refine gt_Wc X hP 2 (by decide) (v := .ref (a 3)) q_225 rfl d_Wc_interrupt_1 ?_
  refine gt_Prc X hP 4 (by decide) (v := .int (S.1 10)) q_199 rfl d_Wc_interrupt_4 ?_
  refine lv_if_eq (tgt := 12) hx hb d_Wc_interrupt_7 rfl (fun h1 => ?_) (fun h1 => ?_)
  ·
    refine lv_aload_n hx hb d_Wc_interrupt_12 rfl (lv_at hl 0 rfl) ?_
    refine gt_Wc X hP 2 (by decide) (v := .ref (a 3)) q_225 rfl d_Wc_interrupt_13 ?_
    refine lv_iconst (v := (1 : Int32)) hx hb d_Wc_interrupt_16 (by decide) ?_
    refine pt_Prc X hP hS 4 (by decide) (v := (1 : Int32)) (S1 := (pr S 10 ((1 : Int32)))) q_199 rfl (by decide) rfl rfl d_Wc_interrupt_17 (fun H locs hP hS => ?_)
    refine lv_iconst (v := (1 : Int32)) hx hb d_Wc_interrupt_20 (by decide) ?_
    exact rt_z X hr hk hP hS (by decide) (by rw [f_Wc_interrupt, if_pos h1]) d_Wc_interrupt_21
  ·
    refine lv_iconst (v := (0 : Int32)) hx hb d_Wc_interrupt_10 (by decide) ?_
    exact rt_z X hr hk hP hS (by decide) (by rw [f_Wc_interrupt, if_neg h1]) d_Wc_interrupt_11
set_option maxHeartbeats 4000000 in
set_option maxRecDepth 100000 in
theorem c_Wc_line (l : Launch) (D : va_G) (cB cI : ClassId) (a : Nat → Nat) (bz : Nat) (ha : ap a 8) (S : Sc) (x1 : Int32) (hz : narrow .boolean (.int x1) = .int x1) (hz2 : fits .boolean (.int x1) = true) : MV l y_Wc_line b_Wc_line 2 rm_Wc_line [.ref (a 0), .int x1] D cB cI (wdC cB cI a) (ow a 8) bz S (f_Wc_line S x1) := by
  refine met_in R_Wc (by decide) rfl (Nat.le_of_ble_eq_true rfl) (wdC_D ha cB cI) ?_
  intro p e s m below meth c ls X hr hk hl hP hS
  have hx := X.1.1
  have hb := X.1.2.1
  have hown := X.1.2.2.2.1
  have hts := X.1.2.2.2.2
  have hl : lv_has ls 2 [(0, .ref (a 0)), (1, .int x1)] := hl
  refine lv_aload_n hx hb d_Wc_line_0 rfl (lv_at hl 0 rfl) ?_
  refine gt_Wc X hP 2 (by decide) (v := .ref (a 3)) q_225 rfl d_Wc_line_1 ?_
  refine lv_iload_n hx hb d_Wc_line_4 rfl (lv_at hl 1 rfl) ?_
  refine pt_Prc X hP hS 5 (by decide) (v := x1) (S1 := (pr S 11 (x1))) q_201 rfl hz hz2 rfl d_Wc_line_5 (fun H locs hP hS => ?_)
  exact rt_s X hr hk hP hS (by rw [f_Wc_line]) d_Wc_line_8
set_option maxHeartbeats 4000000 in
set_option maxRecDepth 100000 in
theorem c_Wc_touches (l : Launch) (D : va_G) (cB cI : ClassId) (a : Nat → Nat) (bz : Nat) (ha : ap a 8) (S : Sc) : MI l y_Wc_touches b_Wc_touches 1 (some .int) rm_Wc_touches [.ref (a 0)] D cB cI (wdC cB cI a) (ow a 8) bz S (f_Wc_touches S, S) := by
  refine met_in R_Wc (by decide) rfl (Nat.le_of_ble_eq_true rfl) (wdC_D ha cB cI) ?_
  intro p e s m below meth c ls X hr hk hl hP hS
  have hx := X.1.1
  have hb := X.1.2.1
  have hown := X.1.2.2.2.1
  have hts := X.1.2.2.2.2
  have hl : lv_has ls 1 [(0, .ref (a 0))] := hl
  refine lv_aload_n hx hb d_Wc_touches_0 rfl (lv_at hl 0 rfl) ?_
  refine gt_Wc X hP 0 (by decide) (v := .ref (a 1)) q_223 rfl d_Wc_touches_1 ?_
  refine gt_Bus X hP 2 (by decide) (v := .int (S.1 9)) q_92 rfl d_Wc_touches_4 ?_
  exact rt_vs X hr hk hP hS (by rw [f_Wc_touches]) d_Wc_touches_7
set_option maxHeartbeats 4000000 in
set_option maxRecDepth 100000 in
theorem c_Wc_touched (l : Launch) (D : va_G) (cB cI : ClassId) (a : Nat → Nat) (bz : Nat) (ha : ap a 8) (S : Sc) (x1 : Int32) : MI l y_Wc_touched b_Wc_touched 2 (some .int) rm_Wc_touched [.ref (a 0), .int x1] D cB cI (wdC cB cI a) (ow a 8) bz S (f_Wc_touched S x1, S) := by
  refine met_in R_Wc (by decide) rfl (Nat.le_of_ble_eq_true rfl) (wdC_D ha cB cI) ?_
  intro p e s m below meth c ls X hr hk hl hP hS
  have hx := X.1.1
  have hb := X.1.2.1
  have hown := X.1.2.2.2.1
  have hts := X.1.2.2.2.2
  have hl : lv_has ls 2 [(0, .ref (a 0)), (1, .int x1)] := hl
  refine lv_iload_n hx hb d_Wc_touched_0 rfl (lv_at hl 1 rfl) ?_
  refine lv_if_lt (tgt := 21) hx hb d_Wc_touched_1 rfl (fun h1 => ?_) (fun h1 => ?_)
  ·
    refine lv_iconst (v := (-1 : Int32)) hx hb d_Wc_touched_21 (by decide) ?_
    refine lv_goto (tgt := 33) hx hb d_Wc_touched_22 rfl ?_
    exact rt_vs X hr hk hP hS (by rw [f_Wc_touched, if_pos h1]) d_Wc_touched_33
  ·
    refine lv_iload_n hx hb d_Wc_touched_4 rfl (lv_at hl 1 rfl) ?_
    refine lv_bipush (v := (8 : Int32)) hx hb d_Wc_touched_5 (by decide) ?_
    refine lv_icmp_ge (tgt := 21) hx hb d_Wc_touched_7 rfl (fun h2 => ?_) (fun h2 => ?_)
    ·
      refine lv_iconst (v := (-1 : Int32)) hx hb d_Wc_touched_21 (by decide) ?_
      refine lv_goto (tgt := 33) hx hb d_Wc_touched_22 rfl ?_
      exact rt_vs X hr hk hP hS (by rw [f_Wc_touched, if_neg h1, if_pos h2]) d_Wc_touched_33
    ·
      refine lv_iload_n hx hb d_Wc_touched_10 rfl (lv_at hl 1 rfl) ?_
      refine lv_aload_n hx hb d_Wc_touched_11 rfl (lv_at hl 0 rfl) ?_
      refine gt_Wc X hP 0 (by decide) (v := .ref (a 1)) q_223 rfl d_Wc_touched_12 ?_
      refine gt_Bus X hP 2 (by decide) (v := .int (S.1 9)) q_92 rfl d_Wc_touched_15 ?_
      refine lv_icmp_lt (tgt := 25) hx hb d_Wc_touched_18 rfl (fun h3 => ?_) (fun h3 => ?_)
      ·
        refine lv_aload_n hx hb d_Wc_touched_25 rfl (lv_at hl 0 rfl) ?_
        refine gt_Wc X hP 0 (by decide) (v := .ref (a 1)) q_223 rfl d_Wc_touched_26 ?_
        refine lv_iload_n hx hb d_Wc_touched_29 rfl (lv_at hl 1 rfl) ?_
        refine kv_v (rest := []) X hP hS (c_Bus_latestTouch l D cB cI a bz ha S x1) (kw_Bus_latestTouch hts q_549 ⟨Nat.le_of_ble_eq_true rfl, Nat.le_of_ble_eq_true rfl⟩) 1 rfl rfl rfl hl.1 rfl (lv_room (Nat.le_of_ble_eq_true rfl)) d_Wc_touched_30 (fun H locs hP hS => ?_)
        exact rt_vs X hr hk hP hS (by rw [f_Wc_touched, if_neg h1, if_neg h2, if_pos h3]) d_Wc_touched_33
      ·
        refine lv_iconst (v := (-1 : Int32)) hx hb d_Wc_touched_21 (by decide) ?_
        refine lv_goto (tgt := 33) hx hb d_Wc_touched_22 rfl ?_
        exact rt_vs X hr hk hP hS (by rw [f_Wc_touched, if_neg h1, if_neg h2, if_neg h3]) d_Wc_touched_33
set_option maxHeartbeats 4000000 in
set_option maxRecDepth 100000 in
theorem c_Wc_steps (l : Launch) (D : va_G) (cB cI : ClassId) (a : Nat → Nat) (bz : Nat) (ha : ap a 8) (S : Sc) : MI l y_Wc_steps b_Wc_steps 1 (some .int) rm_Wc_steps [.ref (a 0)] D cB cI (wdC cB cI a) (ow a 8) bz S (f_Wc_steps S, S) := by
  refine met_in R_Wc (by decide) rfl (Nat.le_of_ble_eq_true rfl) (wdC_D ha cB cI) ?_
  intro p e s m below meth c ls X hr hk hl hP hS
  have hx := X.1.1
  have hb := X.1.2.1
  have hown := X.1.2.2.2.1
  have hts := X.1.2.2.2.2
  have hl : lv_has ls 1 [(0, .ref (a 0))] := hl
  refine lv_aload_n hx hb d_Wc_steps_0 rfl (lv_at hl 0 rfl) ?_
  refine gt_Wc X hP 2 (by decide) (v := .ref (a 3)) q_225 rfl d_Wc_steps_1 ?_
  refine gt_Prc X hP 7 (by decide) (v := .int (S.1 13)) q_205 rfl d_Wc_steps_4 ?_
  exact rt_vs X hr hk hP hS (by rw [f_Wc_steps]) d_Wc_steps_7
