set_option maxHeartbeats 4000000 in
set_option maxRecDepth 100000 in
theorem c_Mdl_is (l : Launch) (D : va_G) (cB cI : ClassId) (a : Nat → Nat) (bz : Nat) (ha : ap a 3) (S : Sc) (x1 : Int32) : MI l y_Mdl_is b_Mdl_is 2 (some .boolean) rm_Mdl_is [.ref (a 0), .int x1] D cB cI (wdT cI a) (ow a 3) bz S (f_Mdl_is S x1, S) := by
  refine met_in R_Mdl (by decide) rfl (Nat.le_of_ble_eq_true rfl) (wdT_D ha cI) ?_
  intro p e s m below meth c ls X hr hk hl hP hS
  have hx := X.1.1
  have hb := X.1.2.1
  have hown := X.1.2.2.2.1
  have hts := X.1.2.2.2.2
  have hl : lv_has ls 2 [(0, .ref (a 0)), (1, .int x1)] := hl
  refine lv_aload_n hx hb d_Mdl_is_0 rfl (lv_at hl 0 rfl) ?_
  refine gt_Mdl X hP 7 (by decide) (v := .int (S.1 6)) q_570 rfl d_Mdl_is_1 ?_
  refine lv_iload_n hx hb d_Mdl_is_4 rfl (lv_at hl 1 rfl) ?_
  refine lv_iand hx hb d_Mdl_is_5 ?_
  refine lv_if_eq (tgt := 13) hx hb d_Mdl_is_6 rfl (fun h1 => ?_) (fun h1 => ?_)
  ·
    refine lv_iconst (v := (0 : Int32)) hx hb d_Mdl_is_13 (by decide) ?_
    exact rt_z X hr hk hP hS (by decide) (by rw [f_Mdl_is, if_pos h1]) d_Mdl_is_14
  ·
    refine lv_iconst (v := (1 : Int32)) hx hb d_Mdl_is_9 (by decide) ?_
    refine lv_goto (tgt := 14) hx hb d_Mdl_is_10 rfl ?_
    exact rt_z X hr hk hP hS (by decide) (by rw [f_Mdl_is, if_neg h1]) d_Mdl_is_14
set_option maxHeartbeats 4000000 in
set_option maxRecDepth 100000 in
theorem c_Mdl_flag (l : Launch) (D : va_G) (cB cI : ClassId) (a : Nat → Nat) (bz : Nat) (ha : ap a 3) (S : Sc) (x1 x2 : Int32) : MV l y_Mdl_flag b_Mdl_flag 3 rm_Mdl_flag [.ref (a 0), .int x1, .int x2] D cB cI (wdT cI a) (ow a 3) bz S (f_Mdl_flag S x1 x2) := by
  refine met_in R_Mdl (by decide) rfl (Nat.le_of_ble_eq_true rfl) (wdT_D ha cI) ?_
  intro p e s m below meth c ls X hr hk hl hP hS
  have hx := X.1.1
  have hb := X.1.2.1
  have hown := X.1.2.2.2.1
  have hts := X.1.2.2.2.2
  have hl : lv_has ls 3 [(0, .ref (a 0)), (1, .int x1), (2, .int x2)] := hl
  refine lv_aload_n hx hb d_Mdl_flag_0 rfl (lv_at hl 0 rfl) ?_
  refine lv_iload_n hx hb d_Mdl_flag_1 rfl (lv_at hl 2 rfl) ?_
  refine lv_if_eq (tgt := 14) hx hb d_Mdl_flag_2 rfl (fun h1 => ?_) (fun h1 => ?_)
  ·
    refine lv_aload_n hx hb d_Mdl_flag_14 rfl (lv_at hl 0 rfl) ?_
    refine gt_Mdl X hP 7 (by decide) (v := .int (S.1 6)) q_570 rfl d_Mdl_flag_15 ?_
    refine lv_iload_n hx hb d_Mdl_flag_18 rfl (lv_at hl 1 rfl) ?_
    refine lv_iconst (v := (-1 : Int32)) hx hb d_Mdl_flag_19 (by decide) ?_
    refine lv_ixor hx hb d_Mdl_flag_20 ?_
    refine lv_iand hx hb d_Mdl_flag_21 ?_
    refine pt_Mdl X hP hS 7 (by decide) (v := ((S.1 6) &&& (x1 ^^^ (-1 : Int32)))) (S1 := (pr S 6 (((S.1 6) &&& (x1 ^^^ (-1 : Int32)))))) q_570 rfl rfl rfl rfl d_Mdl_flag_22 (fun H locs hP hS => ?_)
    exact rt_s X hr hk hP hS (by rw [f_Mdl_flag, if_pos h1]) d_Mdl_flag_25
  ·
    refine lv_aload_n hx hb d_Mdl_flag_5 rfl (lv_at hl 0 rfl) ?_
    refine gt_Mdl X hP 7 (by decide) (v := .int (S.1 6)) q_570 rfl d_Mdl_flag_6 ?_
    refine lv_iload_n hx hb d_Mdl_flag_9 rfl (lv_at hl 1 rfl) ?_
    refine lv_ior hx hb d_Mdl_flag_10 ?_
    refine lv_goto (tgt := 22) hx hb d_Mdl_flag_11 rfl ?_
    refine pt_Mdl X hP hS 7 (by decide) (v := ((S.1 6) ||| x1)) (S1 := (pr S 6 (((S.1 6) ||| x1)))) q_570 rfl rfl rfl rfl d_Mdl_flag_22 (fun H locs hP hS => ?_)
    exact rt_s X hr hk hP hS (by rw [f_Mdl_flag, if_neg h1]) d_Mdl_flag_25
set_option maxHeartbeats 4000000 in
set_option maxRecDepth 100000 in
theorem c_Mdl_cell (l : Launch) (D : va_G) (cB cI : ClassId) (a : Nat → Nat) (bz : Nat) (ha : ap a 3) (S : Sc) (x0 : Int32) : MI l y_Mdl_cell b_Mdl_cell 1 (some .int) rm_Mdl_cell [.int x0] D cB cI (wdT cI a) (ow a 3) bz S (f_Mdl_cell x0, S) := by
  refine met_in R_Mdl (by decide) rfl (Nat.le_of_ble_eq_true rfl) (wdT_D ha cI) ?_
  intro p e s m below meth c ls X hr hk hl hP hS
  have hx := X.1.1
  have hb := X.1.2.1
  have hown := X.1.2.2.2.1
  have hts := X.1.2.2.2.2
  have hl : lv_has ls 1 [(0, .int x0)] := hl
  refine lv_sipush (v := (512 : Int32)) hx hb d_Mdl_cell_0 (by decide) ?_
  refine lv_iload_n hx hb d_Mdl_cell_3 rfl (lv_at hl 0 rfl) ?_
  refine lv_bipush (v := (16 : Int32)) hx hb d_Mdl_cell_4 (by decide) ?_
  refine lv_ishr hx hb d_Mdl_cell_6 ?_
  refine lv_iconst (v := (1 : Int32)) hx hb d_Mdl_cell_7 (by decide) ?_
  refine lv_iand hx hb d_Mdl_cell_8 ?_
  refine lv_imul hx hb d_Mdl_cell_9 ?_
  refine lv_iload_n hx hb d_Mdl_cell_10 rfl (lv_at hl 0 rfl) ?_
  refine lv_sipush (v := (511 : Int32)) hx hb d_Mdl_cell_11 (by decide) ?_
  refine lv_iand hx hb d_Mdl_cell_14 ?_
  refine lv_iadd hx hb d_Mdl_cell_15 ?_
  exact rt_vs X hr hk hP hS (by rw [f_Mdl_cell]) d_Mdl_cell_16
set_option maxHeartbeats 4000000 in
set_option maxRecDepth 100000 in
theorem c_Mdl_touch (l : Launch) (D : va_G) (cB cI : ClassId) (a : Nat → Nat) (bz : Nat) (ha : ap a 3) (S : Sc) (x1 : Int32) : MV l y_Mdl_touch b_Mdl_touch 3 rm_Mdl_touch [.ref (a 0), .int x1] D cB cI (wdT cI a) (ow a 3) bz S (f_Mdl_touch S x1) := by
  refine met_in R_Mdl (by decide) rfl (Nat.le_of_ble_eq_true rfl) (wdT_D ha cI) ?_
  intro p e s m below meth c ls X hr hk hl hP hS
  have hx := X.1.1
  have hb := X.1.2.1
  have hown := X.1.2.2.2.1
  have hts := X.1.2.2.2.2
  have hl : lv_has ls 3 [(0, .ref (a 0)), (1, .int x1)] := hl
  refine lv_bipush (v := (7 : Int32)) hx hb d_Mdl_touch_0 (by decide) ?_
  refine lv_istore_n hx hb d_Mdl_touch_2 rfl hl (Nat.le_of_ble_eq_true rfl) rfl (fun ls hl => ?_)
  have hl : lv_has ls 3 [(2, .int ((7 : Int32))), (0, .ref (a 0)), (1, .int (x1))] := hl
  refine lv_iload_n hx hb d_Mdl_touch_3 rfl (lv_at hl 0 rfl) ?_
  refine lv_if_le (tgt := 27) hx hb d_Mdl_touch_4 rfl (fun h => absurd h (by decide)) (fun _ => ?_)
  refine lv_aload_n hx hb d_Mdl_touch_7 rfl (lv_at hl 1 rfl) ?_
  refine gt_Mdl X hP 15 (by decide) (v := .ref (a 2)) q_578 rfl d_Mdl_touch_8 ?_
  refine lv_iload_n hx hb d_Mdl_touch_11 rfl (lv_at hl 0 rfl) ?_
  refine lv_aload_n hx hb d_Mdl_touch_12 rfl (lv_at hl 1 rfl) ?_
  refine gt_Mdl X hP 15 (by decide) (v := .ref (a 2)) q_578 rfl d_Mdl_touch_13 ?_
  refine lv_iload_n hx hb d_Mdl_touch_16 rfl (lv_at hl 0 rfl) ?_
  refine lv_iconst (v := (1 : Int32)) hx hb d_Mdl_touch_17 (by decide) ?_
  refine lv_isub hx hb d_Mdl_touch_18 ?_
  refine rdi_ X hP 2 rfl (v := S.2.2 (((7 : Int32) - (1 : Int32))).toNatClampNeg) (in_lit (by decide)) rfl d_Mdl_touch_19 ?_
  refine wri_ X hP hS 2 rfl (S1 := (pl S (((7 : Int32)).toNatClampNeg) ((S.2.2 (((7 : Int32) - (1 : Int32))).toNatClampNeg)))) (in_lit (by decide)) rfl d_Mdl_touch_20 (fun H locs hP hS => ?_)
  refine lv_iinc (k := 0) (v := (6 : Int32)) hx hb d_Mdl_touch_21 hl rfl (by decide) (Nat.le_of_ble_eq_true rfl) rfl (fun ls hl => ?_)
  have hl : lv_has ls 3 [(2, .int ((6 : Int32))), (0, .ref (a 0)), (1, .int (x1))] := hl
  refine lv_goto (tgt := 3) hx hb d_Mdl_touch_24 rfl ?_
  refine lv_iload_n hx hb d_Mdl_touch_3 rfl (lv_at hl 0 rfl) ?_
  refine lv_if_le (tgt := 27) hx hb d_Mdl_touch_4 rfl (fun h => absurd h (by decide)) (fun _ => ?_)
  refine lv_aload_n hx hb d_Mdl_touch_7 rfl (lv_at hl 1 rfl) ?_
  refine gt_Mdl X hP 15 (by decide) (v := .ref (a 2)) q_578 rfl d_Mdl_touch_8 ?_
  refine lv_iload_n hx hb d_Mdl_touch_11 rfl (lv_at hl 0 rfl) ?_
  refine lv_aload_n hx hb d_Mdl_touch_12 rfl (lv_at hl 1 rfl) ?_
  refine gt_Mdl X hP 15 (by decide) (v := .ref (a 2)) q_578 rfl d_Mdl_touch_13 ?_
  refine lv_iload_n hx hb d_Mdl_touch_16 rfl (lv_at hl 0 rfl) ?_
  refine lv_iconst (v := (1 : Int32)) hx hb d_Mdl_touch_17 (by decide) ?_
  refine lv_isub hx hb d_Mdl_touch_18 ?_
  refine rdi_ X hP 2 rfl (v := S.2.2 5) (in_lit (by decide)) rfl d_Mdl_touch_19 ?_
  refine wri_ X hP hS 2 rfl (S1 := (pl (pl S (((7 : Int32)).toNatClampNeg) ((S.2.2 (((7 : Int32) - (1 : Int32))).toNatClampNeg))) (((6 : Int32)).toNatClampNeg) ((S.2.2 5)))) (in_lit (by decide)) rfl d_Mdl_touch_20 (fun H locs hP hS => ?_)
  refine lv_iinc (k := 0) (v := (5 : Int32)) hx hb d_Mdl_touch_21 hl rfl (by decide) (Nat.le_of_ble_eq_true rfl) rfl (fun ls hl => ?_)
  have hl : lv_has ls 3 [(2, .int ((5 : Int32))), (0, .ref (a 0)), (1, .int (x1))] := hl
  refine lv_goto (tgt := 3) hx hb d_Mdl_touch_24 rfl ?_
  refine lv_iload_n hx hb d_Mdl_touch_3 rfl (lv_at hl 0 rfl) ?_
  refine lv_if_le (tgt := 27) hx hb d_Mdl_touch_4 rfl (fun h => absurd h (by decide)) (fun _ => ?_)
  refine lv_aload_n hx hb d_Mdl_touch_7 rfl (lv_at hl 1 rfl) ?_
  refine gt_Mdl X hP 15 (by decide) (v := .ref (a 2)) q_578 rfl d_Mdl_touch_8 ?_
  refine lv_iload_n hx hb d_Mdl_touch_11 rfl (lv_at hl 0 rfl) ?_
  refine lv_aload_n hx hb d_Mdl_touch_12 rfl (lv_at hl 1 rfl) ?_
  refine gt_Mdl X hP 15 (by decide) (v := .ref (a 2)) q_578 rfl d_Mdl_touch_13 ?_
  refine lv_iload_n hx hb d_Mdl_touch_16 rfl (lv_at hl 0 rfl) ?_
  refine lv_iconst (v := (1 : Int32)) hx hb d_Mdl_touch_17 (by decide) ?_
  refine lv_isub hx hb d_Mdl_touch_18 ?_
  refine rdi_ X hP 2 rfl (v := S.2.2 4) (in_lit (by decide)) rfl d_Mdl_touch_19 ?_
  refine wri_ X hP hS 2 rfl (S1 := (pl (pl (pl S (((7 : Int32)).toNatClampNeg) ((S.2.2 (((7 : Int32) - (1 : Int32))).toNatClampNeg))) (((6 : Int32)).toNatClampNeg) ((S.2.2 5))) (((5 : Int32)).toNatClampNeg) ((S.2.2 4)))) (in_lit (by decide)) rfl d_Mdl_touch_20 (fun H locs hP hS => ?_)
  refine lv_iinc (k := 0) (v := (4 : Int32)) hx hb d_Mdl_touch_21 hl rfl (by decide) (Nat.le_of_ble_eq_true rfl) rfl (fun ls hl => ?_)
  have hl : lv_has ls 3 [(2, .int ((4 : Int32))), (0, .ref (a 0)), (1, .int (x1))] := hl
  refine lv_goto (tgt := 3) hx hb d_Mdl_touch_24 rfl ?_
  refine lv_iload_n hx hb d_Mdl_touch_3 rfl (lv_at hl 0 rfl) ?_
  refine lv_if_le (tgt := 27) hx hb d_Mdl_touch_4 rfl (fun h => absurd h (by decide)) (fun _ => ?_)
  refine lv_aload_n hx hb d_Mdl_touch_7 rfl (lv_at hl 1 rfl) ?_
  refine gt_Mdl X hP 15 (by decide) (v := .ref (a 2)) q_578 rfl d_Mdl_touch_8 ?_
  refine lv_iload_n hx hb d_Mdl_touch_11 rfl (lv_at hl 0 rfl) ?_
  refine lv_aload_n hx hb d_Mdl_touch_12 rfl (lv_at hl 1 rfl) ?_
  refine gt_Mdl X hP 15 (by decide) (v := .ref (a 2)) q_578 rfl d_Mdl_touch_13 ?_
  refine lv_iload_n hx hb d_Mdl_touch_16 rfl (lv_at hl 0 rfl) ?_
  refine lv_iconst (v := (1 : Int32)) hx hb d_Mdl_touch_17 (by decide) ?_
  refine lv_isub hx hb d_Mdl_touch_18 ?_
  refine rdi_ X hP 2 rfl (v := S.2.2 3) (in_lit (by decide)) rfl d_Mdl_touch_19 ?_
  refine wri_ X hP hS 2 rfl (S1 := (pl (pl (pl (pl S (((7 : Int32)).toNatClampNeg) ((S.2.2 (((7 : Int32) - (1 : Int32))).toNatClampNeg))) (((6 : Int32)).toNatClampNeg) ((S.2.2 5))) (((5 : Int32)).toNatClampNeg) ((S.2.2 4))) (((4 : Int32)).toNatClampNeg) ((S.2.2 3)))) (in_lit (by decide)) rfl d_Mdl_touch_20 (fun H locs hP hS => ?_)
  refine lv_iinc (k := 0) (v := (3 : Int32)) hx hb d_Mdl_touch_21 hl rfl (by decide) (Nat.le_of_ble_eq_true rfl) rfl (fun ls hl => ?_)
  have hl : lv_has ls 3 [(2, .int ((3 : Int32))), (0, .ref (a 0)), (1, .int (x1))] := hl
  refine lv_goto (tgt := 3) hx hb d_Mdl_touch_24 rfl ?_
  refine lv_iload_n hx hb d_Mdl_touch_3 rfl (lv_at hl 0 rfl) ?_
  refine lv_if_le (tgt := 27) hx hb d_Mdl_touch_4 rfl (fun h => absurd h (by decide)) (fun _ => ?_)
  refine lv_aload_n hx hb d_Mdl_touch_7 rfl (lv_at hl 1 rfl) ?_
  refine gt_Mdl X hP 15 (by decide) (v := .ref (a 2)) q_578 rfl d_Mdl_touch_8 ?_
  refine lv_iload_n hx hb d_Mdl_touch_11 rfl (lv_at hl 0 rfl) ?_
  refine lv_aload_n hx hb d_Mdl_touch_12 rfl (lv_at hl 1 rfl) ?_
  refine gt_Mdl X hP 15 (by decide) (v := .ref (a 2)) q_578 rfl d_Mdl_touch_13 ?_
  refine lv_iload_n hx hb d_Mdl_touch_16 rfl (lv_at hl 0 rfl) ?_
  refine lv_iconst (v := (1 : Int32)) hx hb d_Mdl_touch_17 (by decide) ?_
  refine lv_isub hx hb d_Mdl_touch_18 ?_
  refine rdi_ X hP 2 rfl (v := S.2.2 2) (in_lit (by decide)) rfl d_Mdl_touch_19 ?_
  refine wri_ X hP hS 2 rfl (S1 := (pl (pl (pl (pl (pl S (((7 : Int32)).toNatClampNeg) ((S.2.2 (((7 : Int32) - (1 : Int32))).toNatClampNeg))) (((6 : Int32)).toNatClampNeg) ((S.2.2 5))) (((5 : Int32)).toNatClampNeg) ((S.2.2 4))) (((4 : Int32)).toNatClampNeg) ((S.2.2 3))) (((3 : Int32)).toNatClampNeg) ((S.2.2 2)))) (in_lit (by decide)) rfl d_Mdl_touch_20 (fun H locs hP hS => ?_)
  refine lv_iinc (k := 0) (v := (2 : Int32)) hx hb d_Mdl_touch_21 hl rfl (by decide) (Nat.le_of_ble_eq_true rfl) rfl (fun ls hl => ?_)
  have hl : lv_has ls 3 [(2, .int ((2 : Int32))), (0, .ref (a 0)), (1, .int (x1))] := hl
  refine lv_goto (tgt := 3) hx hb d_Mdl_touch_24 rfl ?_
  refine lv_iload_n hx hb d_Mdl_touch_3 rfl (lv_at hl 0 rfl) ?_
  refine lv_if_le (tgt := 27) hx hb d_Mdl_touch_4 rfl (fun h => absurd h (by decide)) (fun _ => ?_)
  refine lv_aload_n hx hb d_Mdl_touch_7 rfl (lv_at hl 1 rfl) ?_
  refine gt_Mdl X hP 15 (by decide) (v := .ref (a 2)) q_578 rfl d_Mdl_touch_8 ?_
  refine lv_iload_n hx hb d_Mdl_touch_11 rfl (lv_at hl 0 rfl) ?_
  refine lv_aload_n hx hb d_Mdl_touch_12 rfl (lv_at hl 1 rfl) ?_
  refine gt_Mdl X hP 15 (by decide) (v := .ref (a 2)) q_578 rfl d_Mdl_touch_13 ?_
  refine lv_iload_n hx hb d_Mdl_touch_16 rfl (lv_at hl 0 rfl) ?_
  refine lv_iconst (v := (1 : Int32)) hx hb d_Mdl_touch_17 (by decide) ?_
  refine lv_isub hx hb d_Mdl_touch_18 ?_
  refine rdi_ X hP 2 rfl (v := S.2.2 1) (in_lit (by decide)) rfl d_Mdl_touch_19 ?_
  refine wri_ X hP hS 2 rfl (S1 := (pl (pl (pl (pl (pl (pl S (((7 : Int32)).toNatClampNeg) ((S.2.2 (((7 : Int32) - (1 : Int32))).toNatClampNeg))) (((6 : Int32)).toNatClampNeg) ((S.2.2 5))) (((5 : Int32)).toNatClampNeg) ((S.2.2 4))) (((4 : Int32)).toNatClampNeg) ((S.2.2 3))) (((3 : Int32)).toNatClampNeg) ((S.2.2 2))) (((2 : Int32)).toNatClampNeg) ((S.2.2 1)))) (in_lit (by decide)) rfl d_Mdl_touch_20 (fun H locs hP hS => ?_)
  refine lv_iinc (k := 0) (v := (1 : Int32)) hx hb d_Mdl_touch_21 hl rfl (by decide) (Nat.le_of_ble_eq_true rfl) rfl (fun ls hl => ?_)
  have hl : lv_has ls 3 [(2, .int ((1 : Int32))), (0, .ref (a 0)), (1, .int (x1))] := hl
  refine lv_goto (tgt := 3) hx hb d_Mdl_touch_24 rfl ?_
  refine lv_iload_n hx hb d_Mdl_touch_3 rfl (lv_at hl 0 rfl) ?_
  refine lv_if_le (tgt := 27) hx hb d_Mdl_touch_4 rfl (fun h => absurd h (by decide)) (fun _ => ?_)
  refine lv_aload_n hx hb d_Mdl_touch_7 rfl (lv_at hl 1 rfl) ?_
  refine gt_Mdl X hP 15 (by decide) (v := .ref (a 2)) q_578 rfl d_Mdl_touch_8 ?_
  refine lv_iload_n hx hb d_Mdl_touch_11 rfl (lv_at hl 0 rfl) ?_
  refine lv_aload_n hx hb d_Mdl_touch_12 rfl (lv_at hl 1 rfl) ?_
  refine gt_Mdl X hP 15 (by decide) (v := .ref (a 2)) q_578 rfl d_Mdl_touch_13 ?_
  refine lv_iload_n hx hb d_Mdl_touch_16 rfl (lv_at hl 0 rfl) ?_
  refine lv_iconst (v := (1 : Int32)) hx hb d_Mdl_touch_17 (by decide) ?_
  refine lv_isub hx hb d_Mdl_touch_18 ?_
  refine rdi_ X hP 2 rfl (v := S.2.2 0) (in_lit (by decide)) rfl d_Mdl_touch_19 ?_
  refine wri_ X hP hS 2 rfl (S1 := (pl (pl (pl (pl (pl (pl (pl S (((7 : Int32)).toNatClampNeg) ((S.2.2 (((7 : Int32) - (1 : Int32))).toNatClampNeg))) (((6 : Int32)).toNatClampNeg) ((S.2.2 5))) (((5 : Int32)).toNatClampNeg) ((S.2.2 4))) (((4 : Int32)).toNatClampNeg) ((S.2.2 3))) (((3 : Int32)).toNatClampNeg) ((S.2.2 2))) (((2 : Int32)).toNatClampNeg) ((S.2.2 1))) (((1 : Int32)).toNatClampNeg) ((S.2.2 0)))) (in_lit (by decide)) rfl d_Mdl_touch_20 (fun H locs hP hS => ?_)
  refine lv_iinc (k := 0) (v := (0 : Int32)) hx hb d_Mdl_touch_21 hl rfl (by decide) (Nat.le_of_ble_eq_true rfl) rfl (fun ls hl => ?_)
  have hl : lv_has ls 3 [(2, .int ((0 : Int32))), (0, .ref (a 0)), (1, .int (x1))] := hl
  refine lv_goto (tgt := 3) hx hb d_Mdl_touch_24 rfl ?_
  refine lv_iload_n hx hb d_Mdl_touch_3 rfl (lv_at hl 0 rfl) ?_
  refine lv_if_le (tgt := 27) hx hb d_Mdl_touch_4 rfl (fun _ => ?_) (fun h => absurd (by decide) h)
  refine lv_aload_n hx hb d_Mdl_touch_27 rfl (lv_at hl 1 rfl) ?_
  refine gt_Mdl X hP 15 (by decide) (v := .ref (a 2)) q_578 rfl d_Mdl_touch_28 ?_
  refine lv_iconst (v := (0 : Int32)) hx hb d_Mdl_touch_31 (by decide) ?_
  refine lv_iload_n hx hb d_Mdl_touch_32 rfl (lv_at hl 2 rfl) ?_
  refine wri_ X hP hS 2 rfl (S1 := (pl (pl (pl (pl (pl (pl (pl (pl S (((7 : Int32)).toNatClampNeg) ((S.2.2 (((7 : Int32) - (1 : Int32))).toNatClampNeg))) (((6 : Int32)).toNatClampNeg) ((S.2.2 5))) (((5 : Int32)).toNatClampNeg) ((S.2.2 4))) (((4 : Int32)).toNatClampNeg) ((S.2.2 3))) (((3 : Int32)).toNatClampNeg) ((S.2.2 2))) (((2 : Int32)).toNatClampNeg) ((S.2.2 1))) (((1 : Int32)).toNatClampNeg) ((S.2.2 0))) (((0 : Int32)).toNatClampNeg) (x1))) (in_lit (by decide)) rfl d_Mdl_touch_33 (fun H locs hP hS => ?_)
  refine lv_aload_n hx hb d_Mdl_touch_34 rfl (lv_at hl 1 rfl) ?_
  refine lv_dup hx hb d_Mdl_touch_35 rfl ?_
  refine gt_Mdl X hP 14 (by decide) (v := .int (S.1 13)) q_577 rfl d_Mdl_touch_36 ?_
  refine lv_iconst (v := (1 : Int32)) hx hb d_Mdl_touch_39 (by decide) ?_
  refine lv_iadd hx hb d_Mdl_touch_40 ?_
  refine pt_Mdl X hP hS 14 (by decide) (v := ((S.1 13) + (1 : Int32))) (S1 := (pr (pl (pl (pl (pl (pl (pl (pl (pl S (((7 : Int32)).toNatClampNeg) ((S.2.2 (((7 : Int32) - (1 : Int32))).toNatClampNeg))) (((6 : Int32)).toNatClampNeg) ((S.2.2 5))) (((5 : Int32)).toNatClampNeg) ((S.2.2 4))) (((4 : Int32)).toNatClampNeg) ((S.2.2 3))) (((3 : Int32)).toNatClampNeg) ((S.2.2 2))) (((2 : Int32)).toNatClampNeg) ((S.2.2 1))) (((1 : Int32)).toNatClampNeg) ((S.2.2 0))) (((0 : Int32)).toNatClampNeg) (x1)) 13 (((S.1 13) + (1 : Int32))))) q_577 rfl rfl rfl rfl d_Mdl_touch_41 (fun H locs hP hS => ?_)
  exact rt_s X hr hk hP hS (by rw [f_Mdl_touch]) d_Mdl_touch_44
set_option maxHeartbeats 4000000 in
set_option maxRecDepth 100000 in
theorem c_Mdl_read (l : Launch) (D : va_G) (cB cI : ClassId) (a : Nat → Nat) (bz : Nat) (ha : ap a 3) (S : Sc) (x1 : Int32) : MI l y_Mdl_read b_Mdl_read 2 (some .int) rm_Mdl_read [.ref (a 0), .int x1] D cB cI (wdT cI a) (ow a 3) bz S (f_Mdl_read S x1) := by
  refine met_in R_Mdl (by decide) rfl (Nat.le_of_ble_eq_true rfl) (wdT_D ha cI) ?_
  intro p e s m below meth c ls X hr hk hl hP hS
  have hx := X.1.1
  have hb := X.1.2.1
  have hown := X.1.2.2.2.1
  have hts := X.1.2.2.2.2
  have hl : lv_has ls 2 [(0, .ref (a 0)), (1, .int x1)] := hl
  refine lv_aload_n hx hb d_Mdl_read_0 rfl (lv_at hl 0 rfl) ?_
  refine lv_iload_n hx hb d_Mdl_read_1 rfl (lv_at hl 1 rfl) ?_
  refine ks_v (rest := [.ref (a 0)]) X hP hS (c_Mdl_cell l D cB cI a bz ha S x1) (kw_Mdl_cell hts q_671 ⟨Nat.le_of_ble_eq_true rfl, Nat.le_of_ble_eq_true rfl⟩) rfl hl.1 rfl (lv_room (Nat.le_of_ble_eq_true rfl)) d_Mdl_read_2 (fun H locs hP hS => ?_)
  refine kv_s (rest := []) X hP hS (c_Mdl_touch l D cB cI a bz ha S (f_Mdl_cell x1)) (kw_Mdl_touch hts q_674 ⟨Nat.le_of_ble_eq_true rfl, Nat.le_of_ble_eq_true rfl⟩) 0 rfl rfl rfl hl.1 rfl (lv_room (Nat.le_of_ble_eq_true rfl)) d_Mdl_read_5 (fun S1 H locs e2 hP hS => ?_)
  refine lv_aload_n hx hb d_Mdl_read_8 rfl (lv_at hl 0 rfl) ?_
  refine gt_Mdl X hP 0 (by decide) (v := .ref (a 1)) q_563 rfl d_Mdl_read_9 ?_
  refine lv_iload_n hx hb d_Mdl_read_12 rfl (lv_at hl 1 rfl) ?_
  refine ks_v (rest := [.ref (a 1)]) X hP hS (c_Mdl_cell l D cB cI a bz ha S1 x1) (kw_Mdl_cell hts q_671 ⟨Nat.le_of_ble_eq_true rfl, Nat.le_of_ble_eq_true rfl⟩) rfl hl.1 rfl (lv_room (Nat.le_of_ble_eq_true rfl)) d_Mdl_read_13 (fun H locs hP hS => ?_)
  refine rdi_ X hP 1 rfl (v := S1.2.1 ((f_Mdl_cell x1)).toNatClampNeg) (in_Mcell _) rfl d_Mdl_read_16 ?_
  exact rt_vs X hr hk hP hS (by rw [f_Mdl_read, bs_eq e2]) d_Mdl_read_17
set_option maxHeartbeats 4000000 in
set_option maxRecDepth 100000 in
theorem c_Mdl_write (l : Launch) (D : va_G) (cB cI : ClassId) (a : Nat → Nat) (bz : Nat) (ha : ap a 3) (S : Sc) (x1 x2 : Int32) : MV l y_Mdl_write b_Mdl_write 3 rm_Mdl_write [.ref (a 0), .int x1, .int x2] D cB cI (wdT cI a) (ow a 3) bz S (f_Mdl_write S x1 x2) := by
  refine met_in R_Mdl (by decide) rfl (Nat.le_of_ble_eq_true rfl) (wdT_D ha cI) ?_
  intro p e s m below meth c ls X hr hk hl hP hS
  have hx := X.1.1
  have hb := X.1.2.1
  have hown := X.1.2.2.2.1
  have hts := X.1.2.2.2.2
  have hl : lv_has ls 3 [(0, .ref (a 0)), (1, .int x1), (2, .int x2)] := hl
  refine lv_aload_n hx hb d_Mdl_write_0 rfl (lv_at hl 0 rfl) ?_
  refine lv_iload_n hx hb d_Mdl_write_1 rfl (lv_at hl 1 rfl) ?_
  refine ks_v (rest := [.ref (a 0)]) X hP hS (c_Mdl_cell l D cB cI a bz ha S x1) (kw_Mdl_cell hts q_671 ⟨Nat.le_of_ble_eq_true rfl, Nat.le_of_ble_eq_true rfl⟩) rfl hl.1 rfl (lv_room (Nat.le_of_ble_eq_true rfl)) d_Mdl_write_2 (fun H locs hP hS => ?_)
  refine lv_sipush (v := (1024 : Int32)) hx hb d_Mdl_write_5 (by decide) ?_
  refine lv_iadd hx hb d_Mdl_write_8 ?_
  refine kv_s (rest := []) X hP hS (c_Mdl_touch l D cB cI a bz ha S ((f_Mdl_cell x1) + (1024 : Int32))) (kw_Mdl_touch hts q_674 ⟨Nat.le_of_ble_eq_true rfl, Nat.le_of_ble_eq_true rfl⟩) 0 rfl rfl rfl hl.1 rfl (lv_room (Nat.le_of_ble_eq_true rfl)) d_Mdl_write_9 (fun S1 H locs e2 hP hS => ?_)
  refine lv_aload_n hx hb d_Mdl_write_12 rfl (lv_at hl 0 rfl) ?_
  refine gt_Mdl X hP 0 (by decide) (v := .ref (a 1)) q_563 rfl d_Mdl_write_13 ?_
  refine lv_iload_n hx hb d_Mdl_write_16 rfl (lv_at hl 1 rfl) ?_
  refine ks_v (rest := [.ref (a 1)]) X hP hS (c_Mdl_cell l D cB cI a bz ha S1 x1) (kw_Mdl_cell hts q_671 ⟨Nat.le_of_ble_eq_true rfl, Nat.le_of_ble_eq_true rfl⟩) rfl hl.1 rfl (lv_room (Nat.le_of_ble_eq_true rfl)) d_Mdl_write_17 (fun H locs hP hS => ?_)
  refine lv_iload_n hx hb d_Mdl_write_20 rfl (lv_at hl 2 rfl) ?_
  refine lv_sipush (v := (255 : Int32)) hx hb d_Mdl_write_21 (by decide) ?_
  refine lv_iand hx hb d_Mdl_write_24 ?_
  refine wri_ X hP hS 1 rfl (S1 := (pm S1 (((f_Mdl_cell x1)).toNatClampNeg) ((x2 &&& (255 : Int32))))) (in_Mcell _) rfl d_Mdl_write_25 (fun H locs hP hS => ?_)
  exact rt_s X hr hk hP hS (by rw [f_Mdl_write, bs_eq e2]) d_Mdl_write_26
set_option maxHeartbeats 4000000 in
set_option maxRecDepth 100000 in
theorem c_Mdl_after (l : Launch) (D : va_G) (cB cI : ClassId) (a : Nat → Nat) (bz : Nat) (ha : ap a 3) (S : Sc) (x1 x2 : Int32) : MI l y_Mdl_after b_Mdl_after 3 (some .int) rm_Mdl_after [.ref (a 0), .int x1, .int x2] D cB cI (wdT cI a) (ow a 3) bz S (f_Mdl_after x1 x2, S) := by
  refine met_in R_Mdl (by decide) rfl (Nat.le_of_ble_eq_true rfl) (wdT_D ha cI) ?_
  intro p e s m below meth c ls X hr hk hl hP hS
  have hx := X.1.1
  have hb := X.1.2.1
  have hown := X.1.2.2.2.1
  have hts := X.1.2.2.2.2
  have hl : lv_has ls 3 [(0, .ref (a 0)), (1, .int x1), (2, .int x2)] := hl
  refine lv_iload_n hx hb d_Mdl_after_0 rfl (lv_at hl 2 rfl) ?_
  refine lv_if_eq (tgt := 18) hx hb d_Mdl_after_1 rfl (fun h1 => ?_) (fun h1 => ?_)
  ·
    refine lv_iload_n hx hb d_Mdl_after_18 rfl (lv_at hl 1 rfl) ?_
    refine lv_iconst (v := (1 : Int32)) hx hb d_Mdl_after_19 (by decide) ?_
    refine lv_iadd hx hb d_Mdl_after_20 ?_
    refine lv_ldc (v := (16777215 : Int32)) hx hb hown (hts _ q_699) d_Mdl_after_21 ?_
    refine lv_iand hx hb d_Mdl_after_23 ?_
    exact rt_vs X hr hk hP hS (by rw [f_Mdl_after, if_pos h1]) d_Mdl_after_24
  ·
    refine lv_iload_n hx hb d_Mdl_after_4 rfl (lv_at hl 1 rfl) ?_
    refine lv_ldc (v := (16711680 : Int32)) hx hb hown (hts _ q_698) d_Mdl_after_5 ?_
    refine lv_iand hx hb d_Mdl_after_7 ?_
    refine lv_iload_n hx hb d_Mdl_after_8 rfl (lv_at hl 1 rfl) ?_
    refine lv_iconst (v := (1 : Int32)) hx hb d_Mdl_after_9 (by decide) ?_
    refine lv_iadd hx hb d_Mdl_after_10 ?_
    refine lv_ldc (v := (65535 : Int32)) hx hb hown (hts _ q_630) d_Mdl_after_11 ?_
    refine lv_iand hx hb d_Mdl_after_13 ?_
    refine lv_ior hx hb d_Mdl_after_14 ?_
    refine lv_goto (tgt := 24) hx hb d_Mdl_after_15 rfl ?_
    exact rt_vs X hr hk hP hS (by rw [f_Mdl_after, if_neg h1]) d_Mdl_after_24
set_option maxHeartbeats 4000000 in
set_option maxRecDepth 100000 in
theorem c_Mdl_readWord (l : Launch) (D : va_G) (cB cI : ClassId) (a : Nat → Nat) (bz : Nat) (ha : ap a 3) (S : Sc) (x1 x2 : Int32) : MI l y_Mdl_readWord b_Mdl_readWord 4 (some .int) rm_Mdl_readWord [.ref (a 0), .int x1, .int x2] D cB cI (wdT cI a) (ow a 3) bz S (f_Mdl_readWord S x1 x2) := by
  refine met_in R_Mdl (by decide) rfl (Nat.le_of_ble_eq_true rfl) (wdT_D ha cI) ?_
  intro p e s m below meth c ls X hr hk hl hP hS
  have hx := X.1.1
  have hb := X.1.2.1
  have hown := X.1.2.2.2.1
  have hts := X.1.2.2.2.2
  have hl : lv_has ls 4 [(0, .ref (a 0)), (1, .int x1), (2, .int x2)] := hl
  refine lv_aload_n hx hb d_Mdl_readWord_0 rfl (lv_at hl 0 rfl) ?_
  refine lv_iload_n hx hb d_Mdl_readWord_1 rfl (lv_at hl 1 rfl) ?_
  refine kv_vs (rest := []) X hP hS (c_Mdl_read l D cB cI a bz ha S x1) (kw_Mdl_read hts q_690 ⟨Nat.le_of_ble_eq_true rfl, Nat.le_of_ble_eq_true rfl⟩) 0 rfl rfl rfl hl.1 rfl (lv_room (Nat.le_of_ble_eq_true rfl)) d_Mdl_readWord_2 (fun r1 S2 H locs e3 hP hS => ?_)
  refine lv_istore_n hx hb d_Mdl_readWord_5 rfl hl (Nat.le_of_ble_eq_true rfl) rfl (fun ls hl => ?_)
  have hl : lv_has ls 4 [(3, .int (r1)), (0, .ref (a 0)), (1, .int (x1)), (2, .int (x2))] := hl
  refine lv_iload_n hx hb d_Mdl_readWord_6 rfl (lv_at hl 0 rfl) ?_
  refine lv_aload_n hx hb d_Mdl_readWord_7 rfl (lv_at hl 1 rfl) ?_
  refine lv_aload_n hx hb d_Mdl_readWord_8 rfl (lv_at hl 1 rfl) ?_
  refine lv_iload_n hx hb d_Mdl_readWord_9 rfl (lv_at hl 2 rfl) ?_
  refine lv_iload_n hx hb d_Mdl_readWord_10 rfl (lv_at hl 3 rfl) ?_
  refine kv_v (rest := [.ref (a 0), .int (r1)]) X hP hS (c_Mdl_after l D cB cI a bz ha S2 x1 x2) (kw_Mdl_after hts q_694 ⟨Nat.le_of_ble_eq_true rfl, Nat.le_of_ble_eq_true rfl⟩) 0 rfl rfl rfl hl.1 rfl (lv_room (Nat.le_of_ble_eq_true rfl)) d_Mdl_readWord_11 (fun H locs hP hS => ?_)
  refine kv_vs (rest := [.int (r1)]) X hP hS (c_Mdl_read l D cB cI a bz ha S2 (f_Mdl_after x1 x2)) (kw_Mdl_read hts q_690 ⟨Nat.le_of_ble_eq_true rfl, Nat.le_of_ble_eq_true rfl⟩) 0 rfl rfl rfl hl.1 rfl (lv_room (Nat.le_of_ble_eq_true rfl)) d_Mdl_readWord_14 (fun r4 S5 H locs e6 hP hS => ?_)
  refine lv_bipush (v := (8 : Int32)) hx hb d_Mdl_readWord_17 (by decide) ?_
  refine lv_ishl hx hb d_Mdl_readWord_19 ?_
  refine lv_ior hx hb d_Mdl_readWord_20 ?_
  exact rt_vs X hr hk hP hS (by rw [f_Mdl_readWord, bn_eq e3, bn_eq e6]) d_Mdl_readWord_21
set_option maxHeartbeats 4000000 in
set_option maxRecDepth 100000 in
theorem c_Mdl_push (l : Launch) (D : va_G) (cB cI : ClassId) (a : Nat → Nat) (bz : Nat) (ha : ap a 3) (S : Sc) (x1 : Int32) : MV l y_Mdl_push b_Mdl_push 2 rm_Mdl_push [.ref (a 0), .int x1] D cB cI (wdT cI a) (ow a 3) bz S (f_Mdl_push S x1) := by
  refine met_in R_Mdl (by decide) rfl (Nat.le_of_ble_eq_true rfl) (wdT_D ha cI) ?_
  intro p e s m below meth c ls X hr hk hl hP hS
  have hx := X.1.1
  have hb := X.1.2.1
  have hown := X.1.2.2.2.1
  have hts := X.1.2.2.2.2
  have hl : lv_has ls 2 [(0, .ref (a 0)), (1, .int x1)] := hl
  refine lv_aload_n hx hb d_Mdl_push_0 rfl (lv_at hl 0 rfl) ?_
  refine lv_aload_n hx hb d_Mdl_push_1 rfl (lv_at hl 0 rfl) ?_
  refine gt_Mdl X hP 4 (by decide) (v := .int (S.1 3)) q_567 rfl d_Mdl_push_2 ?_
  refine lv_iload_n hx hb d_Mdl_push_5 rfl (lv_at hl 1 rfl) ?_
  refine kv_s (rest := []) X hP hS (c_Mdl_write l D cB cI a bz ha S (S.1 3) x1) (kw_Mdl_write hts q_667 ⟨Nat.le_of_ble_eq_true rfl, Nat.le_of_ble_eq_true rfl⟩) 0 rfl rfl rfl hl.1 rfl (lv_room (Nat.le_of_ble_eq_true rfl)) d_Mdl_push_6 (fun S1 H locs e2 hP hS => ?_)
  refine lv_aload_n hx hb d_Mdl_push_9 rfl (lv_at hl 0 rfl) ?_
  refine lv_aload_n hx hb d_Mdl_push_10 rfl (lv_at hl 0 rfl) ?_
  refine gt_Mdl X hP 4 (by decide) (v := .int (S1.1 3)) q_567 rfl d_Mdl_push_11 ?_
  refine lv_iconst (v := (1 : Int32)) hx hb d_Mdl_push_14 (by decide) ?_
  refine lv_isub hx hb d_Mdl_push_15 ?_
  refine lv_ldc (v := (65535 : Int32)) hx hb hown (hts _ q_630) d_Mdl_push_16 ?_
  refine lv_iand hx hb d_Mdl_push_18 ?_
  refine pt_Mdl X hP hS 4 (by decide) (v := (((S1.1 3) - (1 : Int32)) &&& (65535 : Int32))) (S1 := (pr S1 3 ((((S1.1 3) - (1 : Int32)) &&& (65535 : Int32))))) q_567 rfl rfl rfl rfl d_Mdl_push_19 (fun H locs hP hS => ?_)
  exact rt_s X hr hk hP hS (by rw [f_Mdl_push, bs_eq e2]) d_Mdl_push_22
set_option maxHeartbeats 4000000 in
set_option maxRecDepth 100000 in
theorem c_Mdl_pushWord (l : Launch) (D : va_G) (cB cI : ClassId) (a : Nat → Nat) (bz : Nat) (ha : ap a 3) (S : Sc) (x1 : Int32) : MV l y_Mdl_pushWord b_Mdl_pushWord 2 rm_Mdl_pushWord [.ref (a 0), .int x1] D cB cI (wdT cI a) (ow a 3) bz S (f_Mdl_pushWord S x1) := by
  refine met_in R_Mdl (by decide) rfl (Nat.le_of_ble_eq_true rfl) (wdT_D ha cI) ?_
  intro p e s m below meth c ls X hr hk hl hP hS
  have hx := X.1.1
  have hb := X.1.2.1
  have hown := X.1.2.2.2.1
  have hts := X.1.2.2.2.2
  have hl : lv_has ls 2 [(0, .ref (a 0)), (1, .int x1)] := hl
  refine lv_aload_n hx hb d_Mdl_pushWord_0 rfl (lv_at hl 0 rfl) ?_
  refine lv_iload_n hx hb d_Mdl_pushWord_1 rfl (lv_at hl 1 rfl) ?_
  refine lv_bipush (v := (8 : Int32)) hx hb d_Mdl_pushWord_2 (by decide) ?_
  refine lv_ishr hx hb d_Mdl_pushWord_4 ?_
  refine kv_s (rest := []) X hP hS (c_Mdl_push l D cB cI a bz ha S (x1 >>> ((8 : Int32) &&& 31))) (kw_Mdl_push hts q_663 ⟨Nat.le_of_ble_eq_true rfl, Nat.le_of_ble_eq_true rfl⟩) 0 rfl rfl rfl hl.1 rfl (lv_room (Nat.le_of_ble_eq_true rfl)) d_Mdl_pushWord_5 (fun S1 H locs e2 hP hS => ?_)
  refine lv_aload_n hx hb d_Mdl_pushWord_8 rfl (lv_at hl 0 rfl) ?_
  refine lv_iload_n hx hb d_Mdl_pushWord_9 rfl (lv_at hl 1 rfl) ?_
  refine kv_s (rest := []) X hP hS (c_Mdl_push l D cB cI a bz ha S1 x1) (kw_Mdl_push hts q_663 ⟨Nat.le_of_ble_eq_true rfl, Nat.le_of_ble_eq_true rfl⟩) 0 rfl rfl rfl hl.1 rfl (lv_room (Nat.le_of_ble_eq_true rfl)) d_Mdl_pushWord_10 (fun S3 H locs e4 hP hS => ?_)
  exact rt_s X hr hk hP hS (by rw [f_Mdl_pushWord, bs_eq e2, bs_eq e4]) d_Mdl_pushWord_13
set_option maxHeartbeats 4000000 in
set_option maxRecDepth 100000 in
theorem c_Mdl_pull (l : Launch) (D : va_G) (cB cI : ClassId) (a : Nat → Nat) (bz : Nat) (ha : ap a 3) (S : Sc) : MI l y_Mdl_pull b_Mdl_pull 1 (some .int) rm_Mdl_pull [.ref (a 0)] D cB cI (wdT cI a) (ow a 3) bz S (f_Mdl_pull S) := by
  refine met_in R_Mdl (by decide) rfl (Nat.le_of_ble_eq_true rfl) (wdT_D ha cI) ?_
  intro p e s m below meth c ls X hr hk hl hP hS
  have hx := X.1.1
  have hb := X.1.2.1
  have hown := X.1.2.2.2.1
  have hts := X.1.2.2.2.2
  have hl : lv_has ls 1 [(0, .ref (a 0))] := hl
  refine lv_aload_n hx hb d_Mdl_pull_0 rfl (lv_at hl 0 rfl) ?_
  refine lv_aload_n hx hb d_Mdl_pull_1 rfl (lv_at hl 0 rfl) ?_
  refine gt_Mdl X hP 4 (by decide) (v := .int (S.1 3)) q_567 rfl d_Mdl_pull_2 ?_
  refine lv_iconst (v := (1 : Int32)) hx hb d_Mdl_pull_5 (by decide) ?_
  refine lv_iadd hx hb d_Mdl_pull_6 ?_
  refine lv_ldc (v := (65535 : Int32)) hx hb hown (hts _ q_630) d_Mdl_pull_7 ?_
  refine lv_iand hx hb d_Mdl_pull_9 ?_
  refine pt_Mdl X hP hS 4 (by decide) (v := (((S.1 3) + (1 : Int32)) &&& (65535 : Int32))) (S1 := (pr S 3 ((((S.1 3) + (1 : Int32)) &&& (65535 : Int32))))) q_567 rfl rfl rfl rfl d_Mdl_pull_10 (fun H locs hP hS => ?_)
  refine lv_aload_n hx hb d_Mdl_pull_13 rfl (lv_at hl 0 rfl) ?_
  refine lv_aload_n hx hb d_Mdl_pull_14 rfl (lv_at hl 0 rfl) ?_
  refine gt_Mdl X hP 4 (by decide) (v := .int ((((S.1 3) + (1 : Int32)) &&& (65535 : Int32)))) q_567 rfl d_Mdl_pull_15 ?_
  refine kv_vs (rest := []) X hP hS (c_Mdl_read l D cB cI a bz ha (pr S 3 ((((S.1 3) + (1 : Int32)) &&& (65535 : Int32)))) (((S.1 3) + (1 : Int32)) &&& (65535 : Int32))) (kw_Mdl_read hts q_690 ⟨Nat.le_of_ble_eq_true rfl, Nat.le_of_ble_eq_true rfl⟩) 0 rfl rfl rfl hl.1 rfl (lv_room (Nat.le_of_ble_eq_true rfl)) d_Mdl_pull_18 (fun r1 S2 H locs e3 hP hS => ?_)
  exact rt_vs X hr hk hP hS (by rw [f_Mdl_pull, bn_eq e3]) d_Mdl_pull_21
set_option maxHeartbeats 4000000 in
set_option maxRecDepth 100000 in
theorem c_Mdl_pullWord (l : Launch) (D : va_G) (cB cI : ClassId) (a : Nat → Nat) (bz : Nat) (ha : ap a 3) (S : Sc) : MI l y_Mdl_pullWord b_Mdl_pullWord 2 (some .int) rm_Mdl_pullWord [.ref (a 0)] D cB cI (wdT cI a) (ow a 3) bz S (f_Mdl_pullWord S) := by
  refine met_in R_Mdl (by decide) rfl (Nat.le_of_ble_eq_true rfl) (wdT_D ha cI) ?_
  intro p e s m below meth c ls X hr hk hl hP hS
  have hx := X.1.1
  have hb := X.1.2.1
  have hown := X.1.2.2.2.1
  have hts := X.1.2.2.2.2
  have hl : lv_has ls 2 [(0, .ref (a 0))] := hl
  refine lv_aload_n hx hb d_Mdl_pullWord_0 rfl (lv_at hl 0 rfl) ?_
  refine kv_vs (rest := []) X hP hS (c_Mdl_pull l D cB cI a bz ha S) (kw_Mdl_pull hts q_806 ⟨Nat.le_of_ble_eq_true rfl, Nat.le_of_ble_eq_true rfl⟩) 0 rfl rfl rfl hl.1 rfl (lv_room (Nat.le_of_ble_eq_true rfl)) d_Mdl_pullWord_1 (fun r1 S2 H locs e3 hP hS => ?_)
  refine lv_istore_n hx hb d_Mdl_pullWord_4 rfl hl (Nat.le_of_ble_eq_true rfl) rfl (fun ls hl => ?_)
  have hl : lv_has ls 2 [(1, .int (r1)), (0, .ref (a 0))] := hl
  refine lv_iload_n hx hb d_Mdl_pullWord_5 rfl (lv_at hl 0 rfl) ?_
  refine lv_aload_n hx hb d_Mdl_pullWord_6 rfl (lv_at hl 1 rfl) ?_
  refine kv_vs (rest := [.int (r1)]) X hP hS (c_Mdl_pull l D cB cI a bz ha S2) (kw_Mdl_pull hts q_806 ⟨Nat.le_of_ble_eq_true rfl, Nat.le_of_ble_eq_true rfl⟩) 0 rfl rfl rfl hl.1 rfl (lv_room (Nat.le_of_ble_eq_true rfl)) d_Mdl_pullWord_7 (fun r4 S5 H locs e6 hP hS => ?_)
  refine lv_bipush (v := (8 : Int32)) hx hb d_Mdl_pullWord_10 (by decide) ?_
  refine lv_ishl hx hb d_Mdl_pullWord_12 ?_
  refine lv_ior hx hb d_Mdl_pullWord_13 ?_
  exact rt_vs X hr hk hP hS (by rw [f_Mdl_pullWord, bn_eq e3, bn_eq e6]) d_Mdl_pullWord_14
set_option maxHeartbeats 4000000 in
set_option maxRecDepth 100000 in
theorem c_Mdl_next (l : Launch) (D : va_G) (cB cI : ClassId) (a : Nat → Nat) (bz : Nat) (ha : ap a 3) (S : Sc) : MI l y_Mdl_next b_Mdl_next 2 (some .int) rm_Mdl_next [.ref (a 0)] D cB cI (wdT cI a) (ow a 3) bz S (f_Mdl_next S) := by
  refine met_in R_Mdl (by decide) rfl (Nat.le_of_ble_eq_true rfl) (wdT_D ha cI) ?_
  intro p e s m below meth c ls X hr hk hl hP hS
  have hx := X.1.1
  have hb := X.1.2.1
  have hown := X.1.2.2.2.1
  have hts := X.1.2.2.2.2
  have hl : lv_has ls 2 [(0, .ref (a 0))] := hl
  refine lv_aload_n hx hb d_Mdl_next_0 rfl (lv_at hl 0 rfl) ?_
  refine gt_Mdl X hP 0 (by decide) (v := .ref (a 1)) q_563 rfl d_Mdl_next_1 ?_
  refine lv_aload_n hx hb d_Mdl_next_4 rfl (lv_at hl 0 rfl) ?_
  refine gt_Mdl X hP 8 (by decide) (v := .int (S.1 7)) q_571 rfl d_Mdl_next_5 ?_
  refine lv_bipush (v := (16 : Int32)) hx hb d_Mdl_next_8 (by decide) ?_
  refine lv_ishl hx hb d_Mdl_next_10 ?_
  refine lv_aload_n hx hb d_Mdl_next_11 rfl (lv_at hl 0 rfl) ?_
  refine gt_Mdl X hP 9 (by decide) (v := .int (S.1 8)) q_572 rfl d_Mdl_next_12 ?_
  refine lv_ior hx hb d_Mdl_next_15 ?_
  refine ks_v (rest := [.ref (a 1)]) X hP hS (c_Mdl_cell l D cB cI a bz ha S (((S.1 7) <<< ((16 : Int32) &&& 31)) ||| (S.1 8))) (kw_Mdl_cell hts q_671 ⟨Nat.le_of_ble_eq_true rfl, Nat.le_of_ble_eq_true rfl⟩) rfl hl.1 rfl (lv_room (Nat.le_of_ble_eq_true rfl)) d_Mdl_next_16 (fun H locs hP hS => ?_)
  refine rdi_ X hP 1 rfl (v := S.2.1 ((f_Mdl_cell (((S.1 7) <<< ((16 : Int32) &&& 31)) ||| (S.1 8)))).toNatClampNeg) (in_Mcell _) rfl d_Mdl_next_19 ?_
  refine lv_istore_n hx hb d_Mdl_next_20 rfl hl (Nat.le_of_ble_eq_true rfl) rfl (fun ls hl => ?_)
  have hl : lv_has ls 2 [(1, .int ((S.2.1 ((f_Mdl_cell (((S.1 7) <<< ((16 : Int32) &&& 31)) ||| (S.1 8)))).toNatClampNeg))), (0, .ref (a 0))] := hl
  refine lv_aload_n hx hb d_Mdl_next_21 rfl (lv_at hl 1 rfl) ?_
  refine lv_aload_n hx hb d_Mdl_next_22 rfl (lv_at hl 1 rfl) ?_
  refine gt_Mdl X hP 9 (by decide) (v := .int (S.1 8)) q_572 rfl d_Mdl_next_23 ?_
  refine lv_iconst (v := (1 : Int32)) hx hb d_Mdl_next_26 (by decide) ?_
  refine lv_iadd hx hb d_Mdl_next_27 ?_
  refine lv_ldc (v := (65535 : Int32)) hx hb hown (hts _ q_630) d_Mdl_next_28 ?_
  refine lv_iand hx hb d_Mdl_next_30 ?_
  refine pt_Mdl X hP hS 9 (by decide) (v := (((S.1 8) + (1 : Int32)) &&& (65535 : Int32))) (S1 := (pr S 8 ((((S.1 8) + (1 : Int32)) &&& (65535 : Int32))))) q_572 rfl rfl rfl rfl d_Mdl_next_31 (fun H locs hP hS => ?_)
  refine lv_iload_n hx hb d_Mdl_next_34 rfl (lv_at hl 0 rfl) ?_
  exact rt_vs X hr hk hP hS (by rw [f_Mdl_next]) d_Mdl_next_35
set_option maxHeartbeats 4000000 in
set_option maxRecDepth 100000 in
theorem c_Mdl_nextWord (l : Launch) (D : va_G) (cB cI : ClassId) (a : Nat → Nat) (bz : Nat) (ha : ap a 3) (S : Sc) : MI l y_Mdl_nextWord b_Mdl_nextWord 2 (some .int) rm_Mdl_nextWord [.ref (a 0)] D cB cI (wdT cI a) (ow a 3) bz S (f_Mdl_nextWord S) := by
  refine met_in R_Mdl (by decide) rfl (Nat.le_of_ble_eq_true rfl) (wdT_D ha cI) ?_
  intro p e s m below meth c ls X hr hk hl hP hS
  have hx := X.1.1
  have hb := X.1.2.1
  have hown := X.1.2.2.2.1
  have hts := X.1.2.2.2.2
  have hl : lv_has ls 2 [(0, .ref (a 0))] := hl
  refine lv_aload_n hx hb d_Mdl_nextWord_0 rfl (lv_at hl 0 rfl) ?_
  refine kv_vs (rest := []) X hP hS (c_Mdl_next l D cB cI a bz ha S) (kw_Mdl_next hts q_700 ⟨Nat.le_of_ble_eq_true rfl, Nat.le_of_ble_eq_true rfl⟩) 0 rfl rfl rfl hl.1 rfl (lv_room (Nat.le_of_ble_eq_true rfl)) d_Mdl_nextWord_1 (fun r1 S2 H locs e3 hP hS => ?_)
  refine lv_istore_n hx hb d_Mdl_nextWord_4 rfl hl (Nat.le_of_ble_eq_true rfl) rfl (fun ls hl => ?_)
  have hl : lv_has ls 2 [(1, .int (r1)), (0, .ref (a 0))] := hl
  refine lv_iload_n hx hb d_Mdl_nextWord_5 rfl (lv_at hl 0 rfl) ?_
  refine lv_aload_n hx hb d_Mdl_nextWord_6 rfl (lv_at hl 1 rfl) ?_
  refine kv_vs (rest := [.int (r1)]) X hP hS (c_Mdl_next l D cB cI a bz ha S2) (kw_Mdl_next hts q_700 ⟨Nat.le_of_ble_eq_true rfl, Nat.le_of_ble_eq_true rfl⟩) 0 rfl rfl rfl hl.1 rfl (lv_room (Nat.le_of_ble_eq_true rfl)) d_Mdl_nextWord_7 (fun r4 S5 H locs e6 hP hS => ?_)
  refine lv_bipush (v := (8 : Int32)) hx hb d_Mdl_nextWord_10 (by decide) ?_
  refine lv_ishl hx hb d_Mdl_nextWord_12 ?_
  refine lv_ior hx hb d_Mdl_nextWord_13 ?_
  exact rt_vs X hr hk hP hS (by rw [f_Mdl_nextWord, bn_eq e3, bn_eq e6]) d_Mdl_nextWord_14
set_option maxHeartbeats 4000000 in
set_option maxRecDepth 100000 in
theorem c_Mdl_nextLong (l : Launch) (D : va_G) (cB cI : ClassId) (a : Nat → Nat) (bz : Nat) (ha : ap a 3) (S : Sc) : MI l y_Mdl_nextLong b_Mdl_nextLong 2 (some .int) rm_Mdl_nextLong [.ref (a 0)] D cB cI (wdT cI a) (ow a 3) bz S (f_Mdl_nextLong S) := by
  refine met_in R_Mdl (by decide) rfl (Nat.le_of_ble_eq_true rfl) (wdT_D ha cI) ?_
  intro p e s m below meth c ls X hr hk hl hP hS
  have hx := X.1.1
  have hb := X.1.2.1
  have hown := X.1.2.2.2.1
  have hts := X.1.2.2.2.2
  have hl : lv_has ls 2 [(0, .ref (a 0))] := hl
  refine lv_aload_n hx hb d_Mdl_nextLong_0 rfl (lv_at hl 0 rfl) ?_
  refine kv_vs (rest := []) X hP hS (c_Mdl_nextWord l D cB cI a bz ha S) (kw_Mdl_nextWord hts q_716 ⟨Nat.le_of_ble_eq_true rfl, Nat.le_of_ble_eq_true rfl⟩) 0 rfl rfl rfl hl.1 rfl (lv_room (Nat.le_of_ble_eq_true rfl)) d_Mdl_nextLong_1 (fun r1 S2 H locs e3 hP hS => ?_)
  refine lv_istore_n hx hb d_Mdl_nextLong_4 rfl hl (Nat.le_of_ble_eq_true rfl) rfl (fun ls hl => ?_)
  have hl : lv_has ls 2 [(1, .int (r1)), (0, .ref (a 0))] := hl
  refine lv_iload_n hx hb d_Mdl_nextLong_5 rfl (lv_at hl 0 rfl) ?_
  refine lv_aload_n hx hb d_Mdl_nextLong_6 rfl (lv_at hl 1 rfl) ?_
  refine kv_vs (rest := [.int (r1)]) X hP hS (c_Mdl_next l D cB cI a bz ha S2) (kw_Mdl_next hts q_700 ⟨Nat.le_of_ble_eq_true rfl, Nat.le_of_ble_eq_true rfl⟩) 0 rfl rfl rfl hl.1 rfl (lv_room (Nat.le_of_ble_eq_true rfl)) d_Mdl_nextLong_7 (fun r4 S5 H locs e6 hP hS => ?_)
  refine lv_bipush (v := (16 : Int32)) hx hb d_Mdl_nextLong_10 (by decide) ?_
  refine lv_ishl hx hb d_Mdl_nextLong_12 ?_
  refine lv_ior hx hb d_Mdl_nextLong_13 ?_
  exact rt_vs X hr hk hP hS (by rw [f_Mdl_nextLong, bn_eq e3, bn_eq e6]) d_Mdl_nextLong_14
set_option maxHeartbeats 4000000 in
set_option maxRecDepth 100000 in
theorem c_Mdl_accumulator (l : Launch) (D : va_G) (cB cI : ClassId) (a : Nat → Nat) (bz : Nat) (ha : ap a 3) (S : Sc) : MI l y_Mdl_accumulator b_Mdl_accumulator 1 (some .int) rm_Mdl_accumulator [.ref (a 0)] D cB cI (wdT cI a) (ow a 3) bz S (f_Mdl_accumulator S, S) := by
  refine met_in R_Mdl (by decide) rfl (Nat.le_of_ble_eq_true rfl) (wdT_D ha cI) ?_
  intro p e s m below meth c ls X hr hk hl hP hS
  have hx := X.1.1
  have hb := X.1.2.1
  have hown := X.1.2.2.2.1
  have hts := X.1.2.2.2.2
  have hl : lv_has ls 1 [(0, .ref (a 0))] := hl
  refine lv_aload_n hx hb d_Mdl_accumulator_0 rfl (lv_at hl 0 rfl) ?_
  refine lv_bipush (v := (32 : Int32)) hx hb d_Mdl_accumulator_1 (by decide) ?_
  refine kv_v (rest := []) X hP hS (c_Mdl_is l D cB cI a bz ha S (32 : Int32)) (kw_Mdl_is hts q_635 ⟨Nat.le_of_ble_eq_true rfl, Nat.le_of_ble_eq_true rfl⟩) 0 rfl rfl rfl hl.1 rfl (lv_room (Nat.le_of_ble_eq_true rfl)) d_Mdl_accumulator_3 (fun H locs hP hS => ?_)
  refine lv_if_eq (tgt := 20) hx hb d_Mdl_accumulator_6 rfl (fun h1 => ?_) (fun h1 => ?_)
  ·
    refine lv_aload_n hx hb d_Mdl_accumulator_20 rfl (lv_at hl 0 rfl) ?_
    refine gt_Mdl X hP 1 (by decide) (v := .int (S.1 0)) q_564 rfl d_Mdl_accumulator_21 ?_
    exact rt_vs X hr hk hP hS (by rw [f_Mdl_accumulator, if_pos h1]) d_Mdl_accumulator_24
  ·
    refine lv_aload_n hx hb d_Mdl_accumulator_9 rfl (lv_at hl 0 rfl) ?_
    refine gt_Mdl X hP 1 (by decide) (v := .int (S.1 0)) q_564 rfl d_Mdl_accumulator_10 ?_
    refine lv_sipush (v := (255 : Int32)) hx hb d_Mdl_accumulator_13 (by decide) ?_
    refine lv_iand hx hb d_Mdl_accumulator_16 ?_
    refine lv_goto (tgt := 24) hx hb d_Mdl_accumulator_17 rfl ?_
    exact rt_vs X hr hk hP hS (by rw [f_Mdl_accumulator, if_neg h1]) d_Mdl_accumulator_24
set_option maxHeartbeats 4000000 in
set_option maxRecDepth 100000 in
theorem c_Mdl_setAccumulator (l : Launch) (D : va_G) (cB cI : ClassId) (a : Nat → Nat) (bz : Nat) (ha : ap a 3) (S : Sc) (x1 : Int32) : MV l y_Mdl_setAccumulator b_Mdl_setAccumulator 2 rm_Mdl_setAccumulator [.ref (a 0), .int x1] D cB cI (wdT cI a) (ow a 3) bz S (f_Mdl_setAccumulator S x1) := by
  refine met_in R_Mdl (by decide) rfl (Nat.le_of_ble_eq_true rfl) (wdT_D ha cI) ?_
  intro p e s m below meth c ls X hr hk hl hP hS
  have hx := X.1.1
  have hb := X.1.2.1
  have hown := X.1.2.2.2.1
  have hts := X.1.2.2.2.2
  have hl : lv_has ls 2 [(0, .ref (a 0)), (1, .int x1)] := hl
  refine lv_aload_n hx hb d_Mdl_setAccumulator_0 rfl (lv_at hl 0 rfl) ?_
  refine lv_aload_n hx hb d_Mdl_setAccumulator_1 rfl (lv_at hl 0 rfl) ?_
  refine lv_bipush (v := (32 : Int32)) hx hb d_Mdl_setAccumulator_2 (by decide) ?_
  refine kv_v (rest := [.ref (a 0)]) X hP hS (c_Mdl_is l D cB cI a bz ha S (32 : Int32)) (kw_Mdl_is hts q_635 ⟨Nat.le_of_ble_eq_true rfl, Nat.le_of_ble_eq_true rfl⟩) 0 rfl rfl rfl hl.1 rfl (lv_room (Nat.le_of_ble_eq_true rfl)) d_Mdl_setAccumulator_4 (fun H locs hP hS => ?_)
  refine lv_if_eq (tgt := 26) hx hb d_Mdl_setAccumulator_7 rfl (fun h1 => ?_) (fun h1 => ?_)
  ·
    refine lv_iload_n hx hb d_Mdl_setAccumulator_26 rfl (lv_at hl 1 rfl) ?_
    refine lv_ldc (v := (65535 : Int32)) hx hb hown (hts _ q_630) d_Mdl_setAccumulator_27 ?_
    refine lv_iand hx hb d_Mdl_setAccumulator_29 ?_
    refine pt_Mdl X hP hS 1 (by decide) (v := (x1 &&& (65535 : Int32))) (S1 := (pr S 0 ((x1 &&& (65535 : Int32))))) q_564 rfl rfl rfl rfl d_Mdl_setAccumulator_30 (fun H locs hP hS => ?_)
    exact rt_s X hr hk hP hS (by rw [f_Mdl_setAccumulator, if_pos h1]) d_Mdl_setAccumulator_33
  ·
    refine lv_aload_n hx hb d_Mdl_setAccumulator_10 rfl (lv_at hl 0 rfl) ?_
    refine gt_Mdl X hP 1 (by decide) (v := .int (S.1 0)) q_564 rfl d_Mdl_setAccumulator_11 ?_
    refine lv_ldc (v := (65280 : Int32)) hx hb hown (hts _ q_757) d_Mdl_setAccumulator_14 ?_
    refine lv_iand hx hb d_Mdl_setAccumulator_16 ?_
    refine lv_iload_n hx hb d_Mdl_setAccumulator_17 rfl (lv_at hl 1 rfl) ?_
    refine lv_sipush (v := (255 : Int32)) hx hb d_Mdl_setAccumulator_18 (by decide) ?_
    refine lv_iand hx hb d_Mdl_setAccumulator_21 ?_
    refine lv_ior hx hb d_Mdl_setAccumulator_22 ?_
    refine lv_goto (tgt := 30) hx hb d_Mdl_setAccumulator_23 rfl ?_
    refine pt_Mdl X hP hS 1 (by decide) (v := (((S.1 0) &&& (65280 : Int32)) ||| (x1 &&& (255 : Int32)))) (S1 := (pr S 0 ((((S.1 0) &&& (65280 : Int32)) ||| (x1 &&& (255 : Int32)))))) q_564 rfl rfl rfl rfl d_Mdl_setAccumulator_30 (fun H locs hP hS => ?_)
    exact rt_s X hr hk hP hS (by rw [f_Mdl_setAccumulator, if_neg h1]) d_Mdl_setAccumulator_33
set_option maxHeartbeats 4000000 in
set_option maxRecDepth 100000 in
theorem c_Mdl_cut (l : Launch) (D : va_G) (cB cI : ClassId) (a : Nat → Nat) (bz : Nat) (ha : ap a 3) (S : Sc) (x1 x2 : Int32) : MI l y_Mdl_cut b_Mdl_cut 3 (some .int) rm_Mdl_cut [.ref (a 0), .int x1, .int x2] D cB cI (wdT cI a) (ow a 3) bz S (f_Mdl_cut x1 x2, S) := by
  refine met_in R_Mdl (by decide) rfl (Nat.le_of_ble_eq_true rfl) (wdT_D ha cI) ?_
  intro p e s m below meth c ls X hr hk hl hP hS
  have hx := X.1.1
  have hb := X.1.2.1
  have hown := X.1.2.2.2.1
  have hts := X.1.2.2.2.2
  have hl : lv_has ls 3 [(0, .ref (a 0)), (1, .int x1), (2, .int x2)] := hl
  refine lv_iload_n hx hb d_Mdl_cut_0 rfl (lv_at hl 2 rfl) ?_
  refine lv_if_eq (tgt := 12) hx hb d_Mdl_cut_1 rfl (fun h1 => ?_) (fun h1 => ?_)
  ·
    refine lv_iload_n hx hb d_Mdl_cut_12 rfl (lv_at hl 1 rfl) ?_
    refine lv_ldc (v := (65535 : Int32)) hx hb hown (hts _ q_630) d_Mdl_cut_13 ?_
    refine lv_iand hx hb d_Mdl_cut_15 ?_
    exact rt_vs X hr hk hP hS (by rw [f_Mdl_cut, if_pos h1]) d_Mdl_cut_16
  ·
    refine lv_iload_n hx hb d_Mdl_cut_4 rfl (lv_at hl 1 rfl) ?_
    refine lv_sipush (v := (255 : Int32)) hx hb d_Mdl_cut_5 (by decide) ?_
    refine lv_iand hx hb d_Mdl_cut_8 ?_
    refine lv_goto (tgt := 16) hx hb d_Mdl_cut_9 rfl ?_
    exact rt_vs X hr hk hP hS (by rw [f_Mdl_cut, if_neg h1]) d_Mdl_cut_16
set_option maxHeartbeats 4000000 in
set_option maxRecDepth 100000 in
theorem c_Mdl_result (l : Launch) (D : va_G) (cB cI : ClassId) (a : Nat → Nat) (bz : Nat) (ha : ap a 3) (S : Sc) (x1 x2 : Int32) : MI l y_Mdl_result b_Mdl_result 4 (some .int) rm_Mdl_result [.ref (a 0), .int x1, .int x2] D cB cI (wdT cI a) (ow a 3) bz S (f_Mdl_result S x1 x2) := by
  refine met_in R_Mdl (by decide) rfl (Nat.le_of_ble_eq_true rfl) (wdT_D ha cI) ?_
  intro p e s m below meth c ls X hr hk hl hP hS
  have hx := X.1.1
  have hb := X.1.2.1
  have hown := X.1.2.2.2.1
  have hts := X.1.2.2.2.2
  have hl : lv_has ls 4 [(0, .ref (a 0)), (1, .int x1), (2, .int x2)] := hl
  refine lv_aload_n hx hb d_Mdl_result_0 rfl (lv_at hl 0 rfl) ?_
  refine lv_iload_n hx hb d_Mdl_result_1 rfl (lv_at hl 1 rfl) ?_
  refine lv_iload_n hx hb d_Mdl_result_2 rfl (lv_at hl 2 rfl) ?_
  refine kv_v (rest := []) X hP hS (c_Mdl_cut l D cB cI a bz ha S x1 x2) (kw_Mdl_cut hts q_639 ⟨Nat.le_of_ble_eq_true rfl, Nat.le_of_ble_eq_true rfl⟩) 0 rfl rfl rfl hl.1 rfl (lv_room (Nat.le_of_ble_eq_true rfl)) d_Mdl_result_3 (fun H locs hP hS => ?_)
  refine lv_istore_n hx hb d_Mdl_result_6 rfl hl (Nat.le_of_ble_eq_true rfl) rfl (fun ls hl => ?_)
  have hl : lv_has ls 4 [(3, .int ((f_Mdl_cut x1 x2))), (0, .ref (a 0)), (1, .int (x1)), (2, .int (x2))] := hl
  refine lv_aload_n hx hb d_Mdl_result_7 rfl (lv_at hl 1 rfl) ?_
  refine lv_sipush (v := (128 : Int32)) hx hb d_Mdl_result_8 (by decide) ?_
  refine lv_iload_n hx hb d_Mdl_result_11 rfl (lv_at hl 0 rfl) ?_
  refine lv_iload_n hx hb d_Mdl_result_12 rfl (lv_at hl 3 rfl) ?_
  refine lv_if_eq (tgt := 22) hx hb d_Mdl_result_13 rfl (fun h1 => ?_) (fun h1 => ?_)
  ·
    refine lv_ldc (v := (32768 : Int32)) hx hb hown (hts _ q_748) d_Mdl_result_22 ?_
    refine lv_iand hx hb d_Mdl_result_24 ?_
    refine lv_if_eq (tgt := 32) hx hb d_Mdl_result_25 rfl (fun h2 => ?_) (fun h2 => ?_)
    ·
      refine lv_iconst (v := (0 : Int32)) hx hb d_Mdl_result_32 (by decide) ?_
      refine kv_s (rest := []) X hP hS (c_Mdl_flag l D cB cI a bz ha S (128 : Int32) (0 : Int32)) (kw_Mdl_flag hts q_682 ⟨Nat.le_of_ble_eq_true rfl, Nat.le_of_ble_eq_true rfl⟩) 0 rfl rfl rfl hl.1 rfl (lv_room (Nat.le_of_ble_eq_true rfl)) d_Mdl_result_33 (fun S3 H locs e4 hP hS => ?_)
      refine lv_aload_n hx hb d_Mdl_result_36 rfl (lv_at hl 1 rfl) ?_
      refine lv_iconst (v := (2 : Int32)) hx hb d_Mdl_result_37 (by decide) ?_
      refine lv_iload_n hx hb d_Mdl_result_38 rfl (lv_at hl 0 rfl) ?_
      refine lv_if_ne (tgt := 46) hx hb d_Mdl_result_39 rfl (fun h5 => ?_) (fun h5 => ?_)
      ·
        refine lv_iconst (v := (0 : Int32)) hx hb d_Mdl_result_46 (by decide) ?_
        refine kv_s (rest := []) X hP hS (c_Mdl_flag l D cB cI a bz ha S3 (2 : Int32) (0 : Int32)) (kw_Mdl_flag hts q_682 ⟨Nat.le_of_ble_eq_true rfl, Nat.le_of_ble_eq_true rfl⟩) 0 rfl rfl rfl hl.1 rfl (lv_room (Nat.le_of_ble_eq_true rfl)) d_Mdl_result_47 (fun S6 H locs e7 hP hS => ?_)
        refine lv_iload_n hx hb d_Mdl_result_50 rfl (lv_at hl 0 rfl) ?_
        exact rt_vs X hr hk hP hS (by rw [f_Mdl_result, if_pos h1, if_pos h2, bs_eq e4, if_neg h5, bs_eq e7]) d_Mdl_result_51
      ·
        refine lv_iconst (v := (1 : Int32)) hx hb d_Mdl_result_42 (by decide) ?_
        refine lv_goto (tgt := 47) hx hb d_Mdl_result_43 rfl ?_
        refine kv_s (rest := []) X hP hS (c_Mdl_flag l D cB cI a bz ha S3 (2 : Int32) (1 : Int32)) (kw_Mdl_flag hts q_682 ⟨Nat.le_of_ble_eq_true rfl, Nat.le_of_ble_eq_true rfl⟩) 0 rfl rfl rfl hl.1 rfl (lv_room (Nat.le_of_ble_eq_true rfl)) d_Mdl_result_47 (fun S8 H locs e9 hP hS => ?_)
        refine lv_iload_n hx hb d_Mdl_result_50 rfl (lv_at hl 0 rfl) ?_
        exact rt_vs X hr hk hP hS (by rw [f_Mdl_result, if_pos h1, if_pos h2, bs_eq e4, if_pos h5, bs_eq e9]) d_Mdl_result_51
    ·
      refine lv_iconst (v := (1 : Int32)) hx hb d_Mdl_result_28 (by decide) ?_
      refine lv_goto (tgt := 33) hx hb d_Mdl_result_29 rfl ?_
      refine kv_s (rest := []) X hP hS (c_Mdl_flag l D cB cI a bz ha S (128 : Int32) (1 : Int32)) (kw_Mdl_flag hts q_682 ⟨Nat.le_of_ble_eq_true rfl, Nat.le_of_ble_eq_true rfl⟩) 0 rfl rfl rfl hl.1 rfl (lv_room (Nat.le_of_ble_eq_true rfl)) d_Mdl_result_33 (fun S10 H locs e11 hP hS => ?_)
      refine lv_aload_n hx hb d_Mdl_result_36 rfl (lv_at hl 1 rfl) ?_
      refine lv_iconst (v := (2 : Int32)) hx hb d_Mdl_result_37 (by decide) ?_
      refine lv_iload_n hx hb d_Mdl_result_38 rfl (lv_at hl 0 rfl) ?_
      refine lv_if_ne (tgt := 46) hx hb d_Mdl_result_39 rfl (fun h12 => ?_) (fun h12 => ?_)
      ·
        refine lv_iconst (v := (0 : Int32)) hx hb d_Mdl_result_46 (by decide) ?_
        refine kv_s (rest := []) X hP hS (c_Mdl_flag l D cB cI a bz ha S10 (2 : Int32) (0 : Int32)) (kw_Mdl_flag hts q_682 ⟨Nat.le_of_ble_eq_true rfl, Nat.le_of_ble_eq_true rfl⟩) 0 rfl rfl rfl hl.1 rfl (lv_room (Nat.le_of_ble_eq_true rfl)) d_Mdl_result_47 (fun S13 H locs e14 hP hS => ?_)
        refine lv_iload_n hx hb d_Mdl_result_50 rfl (lv_at hl 0 rfl) ?_
        exact rt_vs X hr hk hP hS (by rw [f_Mdl_result, if_pos h1, if_neg h2, bs_eq e11, if_neg h12, bs_eq e14]) d_Mdl_result_51
      ·
        refine lv_iconst (v := (1 : Int32)) hx hb d_Mdl_result_42 (by decide) ?_
        refine lv_goto (tgt := 47) hx hb d_Mdl_result_43 rfl ?_
        refine kv_s (rest := []) X hP hS (c_Mdl_flag l D cB cI a bz ha S10 (2 : Int32) (1 : Int32)) (kw_Mdl_flag hts q_682 ⟨Nat.le_of_ble_eq_true rfl, Nat.le_of_ble_eq_true rfl⟩) 0 rfl rfl rfl hl.1 rfl (lv_room (Nat.le_of_ble_eq_true rfl)) d_Mdl_result_47 (fun S15 H locs e16 hP hS => ?_)
        refine lv_iload_n hx hb d_Mdl_result_50 rfl (lv_at hl 0 rfl) ?_
        exact rt_vs X hr hk hP hS (by rw [f_Mdl_result, if_pos h1, if_neg h2, bs_eq e11, if_pos h12, bs_eq e16]) d_Mdl_result_51
  ·
    refine lv_sipush (v := (128 : Int32)) hx hb d_Mdl_result_16 (by decide) ?_
    refine lv_goto (tgt := 24) hx hb d_Mdl_result_19 rfl ?_
    refine lv_iand hx hb d_Mdl_result_24 ?_
    refine lv_if_eq (tgt := 32) hx hb d_Mdl_result_25 rfl (fun h17 => ?_) (fun h17 => ?_)
    ·
      refine lv_iconst (v := (0 : Int32)) hx hb d_Mdl_result_32 (by decide) ?_
      refine kv_s (rest := []) X hP hS (c_Mdl_flag l D cB cI a bz ha S (128 : Int32) (0 : Int32)) (kw_Mdl_flag hts q_682 ⟨Nat.le_of_ble_eq_true rfl, Nat.le_of_ble_eq_true rfl⟩) 0 rfl rfl rfl hl.1 rfl (lv_room (Nat.le_of_ble_eq_true rfl)) d_Mdl_result_33 (fun S18 H locs e19 hP hS => ?_)
      refine lv_aload_n hx hb d_Mdl_result_36 rfl (lv_at hl 1 rfl) ?_
      refine lv_iconst (v := (2 : Int32)) hx hb d_Mdl_result_37 (by decide) ?_
      refine lv_iload_n hx hb d_Mdl_result_38 rfl (lv_at hl 0 rfl) ?_
      refine lv_if_ne (tgt := 46) hx hb d_Mdl_result_39 rfl (fun h20 => ?_) (fun h20 => ?_)
      ·
        refine lv_iconst (v := (0 : Int32)) hx hb d_Mdl_result_46 (by decide) ?_
        refine kv_s (rest := []) X hP hS (c_Mdl_flag l D cB cI a bz ha S18 (2 : Int32) (0 : Int32)) (kw_Mdl_flag hts q_682 ⟨Nat.le_of_ble_eq_true rfl, Nat.le_of_ble_eq_true rfl⟩) 0 rfl rfl rfl hl.1 rfl (lv_room (Nat.le_of_ble_eq_true rfl)) d_Mdl_result_47 (fun S21 H locs e22 hP hS => ?_)
        refine lv_iload_n hx hb d_Mdl_result_50 rfl (lv_at hl 0 rfl) ?_
        exact rt_vs X hr hk hP hS (by rw [f_Mdl_result, if_neg h1, if_pos h17, bs_eq e19, if_neg h20, bs_eq e22]) d_Mdl_result_51
      ·
        refine lv_iconst (v := (1 : Int32)) hx hb d_Mdl_result_42 (by decide) ?_
        refine lv_goto (tgt := 47) hx hb d_Mdl_result_43 rfl ?_
        refine kv_s (rest := []) X hP hS (c_Mdl_flag l D cB cI a bz ha S18 (2 : Int32) (1 : Int32)) (kw_Mdl_flag hts q_682 ⟨Nat.le_of_ble_eq_true rfl, Nat.le_of_ble_eq_true rfl⟩) 0 rfl rfl rfl hl.1 rfl (lv_room (Nat.le_of_ble_eq_true rfl)) d_Mdl_result_47 (fun S23 H locs e24 hP hS => ?_)
        refine lv_iload_n hx hb d_Mdl_result_50 rfl (lv_at hl 0 rfl) ?_
        exact rt_vs X hr hk hP hS (by rw [f_Mdl_result, if_neg h1, if_pos h17, bs_eq e19, if_pos h20, bs_eq e24]) d_Mdl_result_51
    ·
      refine lv_iconst (v := (1 : Int32)) hx hb d_Mdl_result_28 (by decide) ?_
      refine lv_goto (tgt := 33) hx hb d_Mdl_result_29 rfl ?_
      refine kv_s (rest := []) X hP hS (c_Mdl_flag l D cB cI a bz ha S (128 : Int32) (1 : Int32)) (kw_Mdl_flag hts q_682 ⟨Nat.le_of_ble_eq_true rfl, Nat.le_of_ble_eq_true rfl⟩) 0 rfl rfl rfl hl.1 rfl (lv_room (Nat.le_of_ble_eq_true rfl)) d_Mdl_result_33 (fun S25 H locs e26 hP hS => ?_)
      refine lv_aload_n hx hb d_Mdl_result_36 rfl (lv_at hl 1 rfl) ?_
      refine lv_iconst (v := (2 : Int32)) hx hb d_Mdl_result_37 (by decide) ?_
      refine lv_iload_n hx hb d_Mdl_result_38 rfl (lv_at hl 0 rfl) ?_
      refine lv_if_ne (tgt := 46) hx hb d_Mdl_result_39 rfl (fun h27 => ?_) (fun h27 => ?_)
      ·
        refine lv_iconst (v := (0 : Int32)) hx hb d_Mdl_result_46 (by decide) ?_
        refine kv_s (rest := []) X hP hS (c_Mdl_flag l D cB cI a bz ha S25 (2 : Int32) (0 : Int32)) (kw_Mdl_flag hts q_682 ⟨Nat.le_of_ble_eq_true rfl, Nat.le_of_ble_eq_true rfl⟩) 0 rfl rfl rfl hl.1 rfl (lv_room (Nat.le_of_ble_eq_true rfl)) d_Mdl_result_47 (fun S28 H locs e29 hP hS => ?_)
        refine lv_iload_n hx hb d_Mdl_result_50 rfl (lv_at hl 0 rfl) ?_
        exact rt_vs X hr hk hP hS (by rw [f_Mdl_result, if_neg h1, if_neg h17, bs_eq e26, if_neg h27, bs_eq e29]) d_Mdl_result_51
      ·
        refine lv_iconst (v := (1 : Int32)) hx hb d_Mdl_result_42 (by decide) ?_
        refine lv_goto (tgt := 47) hx hb d_Mdl_result_43 rfl ?_
        refine kv_s (rest := []) X hP hS (c_Mdl_flag l D cB cI a bz ha S25 (2 : Int32) (1 : Int32)) (kw_Mdl_flag hts q_682 ⟨Nat.le_of_ble_eq_true rfl, Nat.le_of_ble_eq_true rfl⟩) 0 rfl rfl rfl hl.1 rfl (lv_room (Nat.le_of_ble_eq_true rfl)) d_Mdl_result_47 (fun S30 H locs e31 hP hS => ?_)
        refine lv_iload_n hx hb d_Mdl_result_50 rfl (lv_at hl 0 rfl) ?_
        exact rt_vs X hr hk hP hS (by rw [f_Mdl_result, if_neg h1, if_neg h17, bs_eq e26, if_pos h27, bs_eq e31]) d_Mdl_result_51
set_option maxHeartbeats 4000000 in
set_option maxRecDepth 100000 in
theorem c_Mdl_setFlags (l : Launch) (D : va_G) (cB cI : ClassId) (a : Nat → Nat) (bz : Nat) (ha : ap a 3) (S : Sc) (x1 : Int32) : MV l y_Mdl_setFlags b_Mdl_setFlags 2 rm_Mdl_setFlags [.ref (a 0), .int x1] D cB cI (wdT cI a) (ow a 3) bz S (f_Mdl_setFlags S x1) := by
  refine met_in R_Mdl (by decide) rfl (Nat.le_of_ble_eq_true rfl) (wdT_D ha cI) ?_
  intro p e s m below meth c ls X hr hk hl hP hS
  have hx := X.1.1
  have hb := X.1.2.1
  have hown := X.1.2.2.2.1
  have hts := X.1.2.2.2.2
  have hl : lv_has ls 2 [(0, .ref (a 0)), (1, .int x1)] := hl
  refine lv_aload_n hx hb d_Mdl_setFlags_0 rfl (lv_at hl 0 rfl) ?_
  refine lv_iload_n hx hb d_Mdl_setFlags_1 rfl (lv_at hl 1 rfl) ?_
  refine lv_sipush (v := (255 : Int32)) hx hb d_Mdl_setFlags_2 (by decide) ?_
  refine lv_iand hx hb d_Mdl_setFlags_5 ?_
  refine pt_Mdl X hP hS 7 (by decide) (v := (x1 &&& (255 : Int32))) (S1 := (pr S 6 ((x1 &&& (255 : Int32))))) q_570 rfl rfl rfl rfl d_Mdl_setFlags_6 (fun H locs hP hS => ?_)
  refine lv_aload_n hx hb d_Mdl_setFlags_9 rfl (lv_at hl 0 rfl) ?_
  refine lv_bipush (v := (16 : Int32)) hx hb d_Mdl_setFlags_10 (by decide) ?_
  refine kv_v (rest := []) X hP hS (c_Mdl_is l D cB cI a bz ha (pr S 6 ((x1 &&& (255 : Int32)))) (16 : Int32)) (kw_Mdl_is hts q_635 ⟨Nat.le_of_ble_eq_true rfl, Nat.le_of_ble_eq_true rfl⟩) 0 rfl rfl rfl hl.1 rfl (lv_room (Nat.le_of_ble_eq_true rfl)) d_Mdl_setFlags_12 (fun H locs hP hS => ?_)
  refine lv_if_eq (tgt := 42) hx hb d_Mdl_setFlags_15 rfl (fun h1 => ?_) (fun h1 => ?_)
  ·
    exact rt_s X hr hk hP hS (by rw [f_Mdl_setFlags, if_pos h1]) d_Mdl_setFlags_42
  ·
    refine lv_aload_n hx hb d_Mdl_setFlags_18 rfl (lv_at hl 0 rfl) ?_
    refine lv_aload_n hx hb d_Mdl_setFlags_19 rfl (lv_at hl 0 rfl) ?_
    refine gt_Mdl X hP 2 (by decide) (v := .int (S.1 1)) q_565 rfl d_Mdl_setFlags_20 ?_
    refine lv_sipush (v := (255 : Int32)) hx hb d_Mdl_setFlags_23 (by decide) ?_
    refine lv_iand hx hb d_Mdl_setFlags_26 ?_
    refine pt_Mdl X hP hS 2 (by decide) (v := ((S.1 1) &&& (255 : Int32))) (S1 := (pr (pr S 6 ((x1 &&& (255 : Int32)))) 1 (((S.1 1) &&& (255 : Int32))))) q_565 rfl rfl rfl rfl d_Mdl_setFlags_27 (fun H locs hP hS => ?_)
    refine lv_aload_n hx hb d_Mdl_setFlags_30 rfl (lv_at hl 0 rfl) ?_
    refine lv_aload_n hx hb d_Mdl_setFlags_31 rfl (lv_at hl 0 rfl) ?_
    refine gt_Mdl X hP 3 (by decide) (v := .int (S.1 2)) q_566 rfl d_Mdl_setFlags_32 ?_
    refine lv_sipush (v := (255 : Int32)) hx hb d_Mdl_setFlags_35 (by decide) ?_
    refine lv_iand hx hb d_Mdl_setFlags_38 ?_
    refine pt_Mdl X hP hS 3 (by decide) (v := ((S.1 2) &&& (255 : Int32))) (S1 := (pr (pr (pr S 6 ((x1 &&& (255 : Int32)))) 1 (((S.1 1) &&& (255 : Int32)))) 2 (((S.1 2) &&& (255 : Int32))))) q_566 rfl rfl rfl rfl d_Mdl_setFlags_39 (fun H locs hP hS => ?_)
    exact rt_s X hr hk hP hS (by rw [f_Mdl_setFlags, if_neg h1]) d_Mdl_setFlags_42
set_option maxHeartbeats 4000000 in
set_option maxRecDepth 100000 in
theorem c_Mdl_direct (l : Launch) (D : va_G) (cB cI : ClassId) (a : Nat → Nat) (bz : Nat) (ha : ap a 3) (S : Sc) (x1 : Int32) : MV l y_Mdl_direct b_Mdl_direct 2 rm_Mdl_direct [.ref (a 0), .int x1] D cB cI (wdT cI a) (ow a 3) bz S (f_Mdl_direct S x1) := by
  refine met_in R_Mdl (by decide) rfl (Nat.le_of_ble_eq_true rfl) (wdT_D ha cI) ?_
  intro p e s m below meth c ls X hr hk hl hP hS
  have hx := X.1.1
  have hb := X.1.2.1
  have hown := X.1.2.2.2.1
  have hts := X.1.2.2.2.2
  have hl : lv_has ls 2 [(0, .ref (a 0)), (1, .int x1)] := hl
  refine lv_aload_n hx hb d_Mdl_direct_0 rfl (lv_at hl 0 rfl) ?_
  refine lv_aload_n hx hb d_Mdl_direct_1 rfl (lv_at hl 0 rfl) ?_
  refine gt_Mdl X hP 5 (by decide) (v := .int (S.1 4)) q_568 rfl d_Mdl_direct_2 ?_
  refine lv_aload_n hx hb d_Mdl_direct_5 rfl (lv_at hl 0 rfl) ?_
  refine kv_vs (rest := [.int (S.1 4), .ref (a 0)]) X hP hS (c_Mdl_next l D cB cI a bz ha S) (kw_Mdl_next hts q_700 ⟨Nat.le_of_ble_eq_true rfl, Nat.le_of_ble_eq_true rfl⟩) 0 rfl rfl rfl hl.1 rfl (lv_room (Nat.le_of_ble_eq_true rfl)) d_Mdl_direct_6 (fun r1 S2 H locs e3 hP hS => ?_)
  refine lv_iadd hx hb d_Mdl_direct_9 ?_
  refine lv_iload_n hx hb d_Mdl_direct_10 rfl (lv_at hl 1 rfl) ?_
  refine lv_iadd hx hb d_Mdl_direct_11 ?_
  refine lv_ldc (v := (65535 : Int32)) hx hb hown (hts _ q_630) d_Mdl_direct_12 ?_
  refine lv_iand hx hb d_Mdl_direct_14 ?_
  refine pt_Mdl X hP hS 16 (by decide) (v := ((((S.1 4) + r1) + x1) &&& (65535 : Int32))) (S1 := (pr S2 14 (((((S.1 4) + r1) + x1) &&& (65535 : Int32))))) q_579 rfl rfl rfl rfl d_Mdl_direct_15 (fun H locs hP hS => ?_)
  refine lv_aload_n hx hb d_Mdl_direct_18 rfl (lv_at hl 0 rfl) ?_
  refine lv_iconst (v := (1 : Int32)) hx hb d_Mdl_direct_19 (by decide) ?_
  refine pt_Mdl X hP hS 17 (by decide) (v := (1 : Int32)) (S1 := (pr (pr S2 14 (((((S.1 4) + r1) + x1) &&& (65535 : Int32)))) 15 ((1 : Int32)))) q_580 rfl (by decide) rfl rfl d_Mdl_direct_20 (fun H locs hP hS => ?_)
  exact rt_s X hr hk hP hS (by rw [f_Mdl_direct, bn_eq e3]) d_Mdl_direct_23
set_option maxHeartbeats 4000000 in
set_option maxRecDepth 100000 in
theorem c_Mdl_far (l : Launch) (D : va_G) (cB cI : ClassId) (a : Nat → Nat) (bz : Nat) (ha : ap a 3) (S : Sc) (x1 : Int32) : MV l y_Mdl_far b_Mdl_far 2 rm_Mdl_far [.ref (a 0), .int x1] D cB cI (wdT cI a) (ow a 3) bz S (f_Mdl_far S x1) := by
  refine met_in R_Mdl (by decide) rfl (Nat.le_of_ble_eq_true rfl) (wdT_D ha cI) ?_
  intro p e s m below meth c ls X hr hk hl hP hS
  have hx := X.1.1
  have hb := X.1.2.1
  have hown := X.1.2.2.2.1
  have hts := X.1.2.2.2.2
  have hl : lv_has ls 2 [(0, .ref (a 0)), (1, .int x1)] := hl
  refine lv_aload_n hx hb d_Mdl_far_0 rfl (lv_at hl 0 rfl) ?_
  refine lv_iload_n hx hb d_Mdl_far_1 rfl (lv_at hl 1 rfl) ?_
  refine lv_ldc (v := (16777215 : Int32)) hx hb hown (hts _ q_699) d_Mdl_far_2 ?_
  refine lv_iand hx hb d_Mdl_far_4 ?_
  refine pt_Mdl X hP hS 16 (by decide) (v := (x1 &&& (16777215 : Int32))) (S1 := (pr S 14 ((x1 &&& (16777215 : Int32))))) q_579 rfl rfl rfl rfl d_Mdl_far_5 (fun H locs hP hS => ?_)
  refine lv_aload_n hx hb d_Mdl_far_8 rfl (lv_at hl 0 rfl) ?_
  refine lv_iconst (v := (0 : Int32)) hx hb d_Mdl_far_9 (by decide) ?_
  refine pt_Mdl X hP hS 17 (by decide) (v := (0 : Int32)) (S1 := (pr (pr S 14 ((x1 &&& (16777215 : Int32)))) 15 ((0 : Int32)))) q_580 rfl (by decide) rfl rfl d_Mdl_far_10 (fun H locs hP hS => ?_)
  exact rt_s X hr hk hP hS (by rw [f_Mdl_far]) d_Mdl_far_13
set_option maxHeartbeats 4000000 in
set_option maxRecDepth 100000 in
theorem c_Mdl_load (l : Launch) (D : va_G) (cB cI : ClassId) (a : Nat → Nat) (bz : Nat) (ha : ap a 3) (S : Sc) (x1 : Int32) : MI l y_Mdl_load b_Mdl_load 2 (some .int) rm_Mdl_load [.ref (a 0), .int x1] D cB cI (wdT cI a) (ow a 3) bz S (f_Mdl_load S x1) := by
  refine met_in R_Mdl (by decide) rfl (Nat.le_of_ble_eq_true rfl) (wdT_D ha cI) ?_
  intro p e s m below meth c ls X hr hk hl hP hS
  have hx := X.1.1
  have hb := X.1.2.1
  have hown := X.1.2.2.2.1
  have hts := X.1.2.2.2.2
  have hl : lv_has ls 2 [(0, .ref (a 0)), (1, .int x1)] := hl
  refine lv_iload_n hx hb d_Mdl_load_0 rfl (lv_at hl 1 rfl) ?_
  refine lv_if_eq (tgt := 15) hx hb d_Mdl_load_1 rfl (fun h1 => ?_) (fun h1 => ?_)
  ·
    refine lv_aload_n hx hb d_Mdl_load_15 rfl (lv_at hl 0 rfl) ?_
    refine lv_aload_n hx hb d_Mdl_load_16 rfl (lv_at hl 0 rfl) ?_
    refine gt_Mdl X hP 16 (by decide) (v := .int (S.1 14)) q_579 rfl d_Mdl_load_17 ?_
    refine lv_aload_n hx hb d_Mdl_load_20 rfl (lv_at hl 0 rfl) ?_
    refine gt_Mdl X hP 17 (by decide) (v := .int (S.1 15)) q_580 rfl d_Mdl_load_21 ?_
    refine kv_vs (rest := []) X hP hS (c_Mdl_readWord l D cB cI a bz ha S (S.1 14) (S.1 15)) (kw_Mdl_readWord hts q_686 ⟨Nat.le_of_ble_eq_true rfl, Nat.le_of_ble_eq_true rfl⟩) 0 rfl rfl rfl hl.1 rfl (lv_room (Nat.le_of_ble_eq_true rfl)) d_Mdl_load_24 (fun r2 S3 H locs e4 hP hS => ?_)
    exact rt_vs X hr hk hP hS (by rw [f_Mdl_load, if_pos h1, bn_eq e4]) d_Mdl_load_27
  ·
    refine lv_aload_n hx hb d_Mdl_load_4 rfl (lv_at hl 0 rfl) ?_
    refine lv_aload_n hx hb d_Mdl_load_5 rfl (lv_at hl 0 rfl) ?_
    refine gt_Mdl X hP 16 (by decide) (v := .int (S.1 14)) q_579 rfl d_Mdl_load_6 ?_
    refine kv_vs (rest := []) X hP hS (c_Mdl_read l D cB cI a bz ha S (S.1 14)) (kw_Mdl_read hts q_690 ⟨Nat.le_of_ble_eq_true rfl, Nat.le_of_ble_eq_true rfl⟩) 0 rfl rfl rfl hl.1 rfl (lv_room (Nat.le_of_ble_eq_true rfl)) d_Mdl_load_9 (fun r5 S6 H locs e7 hP hS => ?_)
    refine lv_goto (tgt := 27) hx hb d_Mdl_load_12 rfl ?_
    exact rt_vs X hr hk hP hS (by rw [f_Mdl_load, if_neg h1, bn_eq e7]) d_Mdl_load_27
set_option maxHeartbeats 4000000 in
set_option maxRecDepth 100000 in
theorem c_Mdl_store (l : Launch) (D : va_G) (cB cI : ClassId) (a : Nat → Nat) (bz : Nat) (ha : ap a 3) (S : Sc) (x1 x2 : Int32) : MV l y_Mdl_store b_Mdl_store 3 rm_Mdl_store [.ref (a 0), .int x1, .int x2] D cB cI (wdT cI a) (ow a 3) bz S (f_Mdl_store S x1 x2) := by
  refine met_in R_Mdl (by decide) rfl (Nat.le_of_ble_eq_true rfl) (wdT_D ha cI) ?_
  intro p e s m below meth c ls X hr hk hl hP hS
  have hx := X.1.1
  have hb := X.1.2.1
  have hown := X.1.2.2.2.1
  have hts := X.1.2.2.2.2
  have hl : lv_has ls 3 [(0, .ref (a 0)), (1, .int x1), (2, .int x2)] := hl
  refine lv_aload_n hx hb d_Mdl_store_0 rfl (lv_at hl 0 rfl) ?_
  refine lv_aload_n hx hb d_Mdl_store_1 rfl (lv_at hl 0 rfl) ?_
  refine gt_Mdl X hP 16 (by decide) (v := .int (S.1 14)) q_579 rfl d_Mdl_store_2 ?_
  refine lv_iload_n hx hb d_Mdl_store_5 rfl (lv_at hl 1 rfl) ?_
  refine kv_s (rest := []) X hP hS (c_Mdl_write l D cB cI a bz ha S (S.1 14) x1) (kw_Mdl_write hts q_667 ⟨Nat.le_of_ble_eq_true rfl, Nat.le_of_ble_eq_true rfl⟩) 0 rfl rfl rfl hl.1 rfl (lv_room (Nat.le_of_ble_eq_true rfl)) d_Mdl_store_6 (fun S1 H locs e2 hP hS => ?_)
  refine lv_iload_n hx hb d_Mdl_store_9 rfl (lv_at hl 2 rfl) ?_
  refine lv_if_ne (tgt := 33) hx hb d_Mdl_store_10 rfl (fun h3 => ?_) (fun h3 => ?_)
  ·
    exact rt_s X hr hk hP hS (by rw [f_Mdl_store, bs_eq e2, if_neg h3]) d_Mdl_store_33
  ·
    refine lv_aload_n hx hb d_Mdl_store_13 rfl (lv_at hl 0 rfl) ?_
    refine lv_aload_n hx hb d_Mdl_store_14 rfl (lv_at hl 0 rfl) ?_
    refine lv_aload_n hx hb d_Mdl_store_15 rfl (lv_at hl 0 rfl) ?_
    refine gt_Mdl X hP 16 (by decide) (v := .int (S1.1 14)) q_579 rfl d_Mdl_store_16 ?_
    refine lv_aload_n hx hb d_Mdl_store_19 rfl (lv_at hl 0 rfl) ?_
    refine gt_Mdl X hP 17 (by decide) (v := .int (S1.1 15)) q_580 rfl d_Mdl_store_20 ?_
    refine kv_v (rest := [.ref (a 0)]) X hP hS (c_Mdl_after l D cB cI a bz ha S1 (S1.1 14) (S1.1 15)) (kw_Mdl_after hts q_694 ⟨Nat.le_of_ble_eq_true rfl, Nat.le_of_ble_eq_true rfl⟩) 0 rfl rfl rfl hl.1 rfl (lv_room (Nat.le_of_ble_eq_true rfl)) d_Mdl_store_23 (fun H locs hP hS => ?_)
    refine lv_iload_n hx hb d_Mdl_store_26 rfl (lv_at hl 1 rfl) ?_
    refine lv_bipush (v := (8 : Int32)) hx hb d_Mdl_store_27 (by decide) ?_
    refine lv_ishr hx hb d_Mdl_store_29 ?_
    refine kv_s (rest := []) X hP hS (c_Mdl_write l D cB cI a bz ha S1 (f_Mdl_after (S1.1 14) (S1.1 15)) (x1 >>> ((8 : Int32) &&& 31))) (kw_Mdl_write hts q_667 ⟨Nat.le_of_ble_eq_true rfl, Nat.le_of_ble_eq_true rfl⟩) 0 rfl rfl rfl hl.1 rfl (lv_room (Nat.le_of_ble_eq_true rfl)) d_Mdl_store_30 (fun S4 H locs e5 hP hS => ?_)
    exact rt_s X hr hk hP hS (by rw [f_Mdl_store, bs_eq e2, if_pos h3, bs_eq e5]) d_Mdl_store_33
set_option maxHeartbeats 4000000 in
set_option maxRecDepth 100000 in
theorem c_Mdl_immediate (l : Launch) (D : va_G) (cB cI : ClassId) (a : Nat → Nat) (bz : Nat) (ha : ap a 3) (S : Sc) (x1 : Int32) : MI l y_Mdl_immediate b_Mdl_immediate 2 (some .int) rm_Mdl_immediate [.ref (a 0), .int x1] D cB cI (wdT cI a) (ow a 3) bz S (f_Mdl_immediate S x1) := by
  refine met_in R_Mdl (by decide) rfl (Nat.le_of_ble_eq_true rfl) (wdT_D ha cI) ?_
  intro p e s m below meth c ls X hr hk hl hP hS
  have hx := X.1.1
  have hb := X.1.2.1
  have hown := X.1.2.2.2.1
  have hts := X.1.2.2.2.2
  have hl : lv_has ls 2 [(0, .ref (a 0)), (1, .int x1)] := hl
  refine lv_iload_n hx hb d_Mdl_immediate_0 rfl (lv_at hl 1 rfl) ?_
  refine lv_if_eq (tgt := 11) hx hb d_Mdl_immediate_1 rfl (fun h1 => ?_) (fun h1 => ?_)
  ·
    refine lv_aload_n hx hb d_Mdl_immediate_11 rfl (lv_at hl 0 rfl) ?_
    refine kv_vs (rest := []) X hP hS (c_Mdl_nextWord l D cB cI a bz ha S) (kw_Mdl_nextWord hts q_716 ⟨Nat.le_of_ble_eq_true rfl, Nat.le_of_ble_eq_true rfl⟩) 0 rfl rfl rfl hl.1 rfl (lv_room (Nat.le_of_ble_eq_true rfl)) d_Mdl_immediate_12 (fun r2 S3 H locs e4 hP hS => ?_)
    exact rt_vs X hr hk hP hS (by rw [f_Mdl_immediate, if_pos h1, bn_eq e4]) d_Mdl_immediate_15
  ·
    refine lv_aload_n hx hb d_Mdl_immediate_4 rfl (lv_at hl 0 rfl) ?_
    refine kv_vs (rest := []) X hP hS (c_Mdl_next l D cB cI a bz ha S) (kw_Mdl_next hts q_700 ⟨Nat.le_of_ble_eq_true rfl, Nat.le_of_ble_eq_true rfl⟩) 0 rfl rfl rfl hl.1 rfl (lv_room (Nat.le_of_ble_eq_true rfl)) d_Mdl_immediate_5 (fun r5 S6 H locs e7 hP hS => ?_)
    refine lv_goto (tgt := 15) hx hb d_Mdl_immediate_8 rfl ?_
    exact rt_vs X hr hk hP hS (by rw [f_Mdl_immediate, if_neg h1, bn_eq e7]) d_Mdl_immediate_15
set_option maxHeartbeats 4000000 in
set_option maxRecDepth 100000 in
theorem c_Mdl_compare (l : Launch) (D : va_G) (cB cI : ClassId) (a : Nat → Nat) (bz : Nat) (ha : ap a 3) (S : Sc) (x1 x2 x3 : Int32) : MV l y_Mdl_compare b_Mdl_compare 5 rm_Mdl_compare [.ref (a 0), .int x1, .int x2, .int x3] D cB cI (wdT cI a) (ow a 3) bz S (f_Mdl_compare S x1 x2 x3) := by
  refine met_in R_Mdl (by decide) rfl (Nat.le_of_ble_eq_true rfl) (wdT_D ha cI) ?_
  intro p e s m below meth c ls X hr hk hl hP hS
  have hx := X.1.1
  have hb := X.1.2.1
  have hown := X.1.2.2.2.1
  have hts := X.1.2.2.2.2
  have hl : lv_has ls 5 [(0, .ref (a 0)), (1, .int x1), (2, .int x2), (3, .int x3)] := hl
  refine lv_aload_n hx hb d_Mdl_compare_0 rfl (lv_at hl 0 rfl) ?_
  refine lv_iload_n hx hb d_Mdl_compare_1 rfl (lv_at hl 1 rfl) ?_
  refine lv_iload_n hx hb d_Mdl_compare_2 rfl (lv_at hl 2 rfl) ?_
  refine lv_isub hx hb d_Mdl_compare_3 ?_
  refine lv_iload_n hx hb d_Mdl_compare_4 rfl (lv_at hl 3 rfl) ?_
  refine kv_vs (rest := []) X hP hS (c_Mdl_result l D cB cI a bz ha S (x1 - x2) x3) (kw_Mdl_result hts q_749 ⟨Nat.le_of_ble_eq_true rfl, Nat.le_of_ble_eq_true rfl⟩) 0 rfl rfl rfl hl.1 rfl (lv_room (Nat.le_of_ble_eq_true rfl)) d_Mdl_compare_5 (fun r1 S2 H locs e3 hP hS => ?_)
  refine lv_istore hx hb d_Mdl_compare_8 hl (Nat.le_of_ble_eq_true rfl) rfl (fun ls hl => ?_)
  have hl : lv_has ls 5 [(4, .int (r1)), (0, .ref (a 0)), (1, .int (x1)), (2, .int (x2)), (3, .int (x3))] := hl
  refine lv_aload_n hx hb d_Mdl_compare_10 rfl (lv_at hl 1 rfl) ?_
  refine lv_iconst (v := (1 : Int32)) hx hb d_Mdl_compare_11 (by decide) ?_
  refine lv_iload_n hx hb d_Mdl_compare_12 rfl (lv_at hl 2 rfl) ?_
  refine lv_iload_n hx hb d_Mdl_compare_13 rfl (lv_at hl 3 rfl) ?_
  refine lv_icmp_lt (tgt := 21) hx hb d_Mdl_compare_14 rfl (fun h4 => ?_) (fun h4 => ?_)
  ·
    refine lv_iconst (v := (0 : Int32)) hx hb d_Mdl_compare_21 (by decide) ?_
    refine kv_s (rest := []) X hP hS (c_Mdl_flag l D cB cI a bz ha S2 (1 : Int32) (0 : Int32)) (kw_Mdl_flag hts q_682 ⟨Nat.le_of_ble_eq_true rfl, Nat.le_of_ble_eq_true rfl⟩) 0 rfl rfl rfl hl.1 rfl (lv_room (Nat.le_of_ble_eq_true rfl)) d_Mdl_compare_22 (fun S5 H locs e6 hP hS => ?_)
    exact rt_s X hr hk hP hS (by rw [f_Mdl_compare, bn_eq e3, if_pos h4, bs_eq e6]) d_Mdl_compare_25
  ·
    refine lv_iconst (v := (1 : Int32)) hx hb d_Mdl_compare_17 (by decide) ?_
    refine lv_goto (tgt := 22) hx hb d_Mdl_compare_18 rfl ?_
    refine kv_s (rest := []) X hP hS (c_Mdl_flag l D cB cI a bz ha S2 (1 : Int32) (1 : Int32)) (kw_Mdl_flag hts q_682 ⟨Nat.le_of_ble_eq_true rfl, Nat.le_of_ble_eq_true rfl⟩) 0 rfl rfl rfl hl.1 rfl (lv_room (Nat.le_of_ble_eq_true rfl)) d_Mdl_compare_22 (fun S7 H locs e8 hP hS => ?_)
    exact rt_s X hr hk hP hS (by rw [f_Mdl_compare, bn_eq e3, if_neg h4, bs_eq e8]) d_Mdl_compare_25
set_option maxHeartbeats 4000000 in
set_option maxRecDepth 100000 in
theorem c_Mdl_findIndex (l : Launch) (D : va_G) (cB cI : ClassId) (a : Nat → Nat) (bz : Nat) (ha : ap a 3) (S : Sc) (x1 : Int32) : MV l y_Mdl_findIndex b_Mdl_findIndex 2 rm_Mdl_findIndex [.ref (a 0), .int x1] D cB cI (wdT cI a) (ow a 3) bz S (f_Mdl_findIndex S x1) := by
  refine met_in R_Mdl (by decide) rfl (Nat.le_of_ble_eq_true rfl) (wdT_D ha cI) ?_
  intro p e s m below meth c ls X hr hk hl hP hS
  have hx := X.1.1
  have hb := X.1.2.1
  have hown := X.1.2.2.2.1
  have hts := X.1.2.2.2.2
  have hl : lv_has ls 2 [(0, .ref (a 0)), (1, .int x1)] := hl
  refine lv_iload_n hx hb d_Mdl_findIndex_0 rfl (lv_at hl 1 rfl) ?_
  refine lv_if_eq (tgt := 23) hx hb d_Mdl_findIndex_1 rfl (fun h1 => ?_) (fun h1 => ?_)
  ·
    refine lv_aload_n hx hb d_Mdl_findIndex_23 rfl (lv_at hl 0 rfl) ?_
    refine lv_iconst (v := (0 : Int32)) hx hb d_Mdl_findIndex_24 (by decide) ?_
    refine kv_s (rest := []) X hP hS (c_Mdl_direct l D cB cI a bz ha S (0 : Int32)) (kw_Mdl_direct hts q_712 ⟨Nat.le_of_ble_eq_true rfl, Nat.le_of_ble_eq_true rfl⟩) 0 rfl rfl rfl hl.1 rfl (lv_room (Nat.le_of_ble_eq_true rfl)) d_Mdl_findIndex_25 (fun S2 H locs e3 hP hS => ?_)
    exact rt_s X hr hk hP hS (by rw [f_Mdl_findIndex, if_pos h1, bs_eq e3]) d_Mdl_findIndex_28
  ·
    refine lv_aload_n hx hb d_Mdl_findIndex_4 rfl (lv_at hl 0 rfl) ?_
    refine lv_aload_n hx hb d_Mdl_findIndex_5 rfl (lv_at hl 0 rfl) ?_
    refine gt_Mdl X hP 6 (by decide) (v := .int (S.1 5)) q_569 rfl d_Mdl_findIndex_6 ?_
    refine lv_bipush (v := (16 : Int32)) hx hb d_Mdl_findIndex_9 (by decide) ?_
    refine lv_ishl hx hb d_Mdl_findIndex_11 ?_
    refine lv_aload_n hx hb d_Mdl_findIndex_12 rfl (lv_at hl 0 rfl) ?_
    refine kv_vs (rest := [.int (((S.1 5) <<< ((16 : Int32) &&& 31))), .ref (a 0)]) X hP hS (c_Mdl_nextWord l D cB cI a bz ha S) (kw_Mdl_nextWord hts q_716 ⟨Nat.le_of_ble_eq_true rfl, Nat.le_of_ble_eq_true rfl⟩) 0 rfl rfl rfl hl.1 rfl (lv_room (Nat.le_of_ble_eq_true rfl)) d_Mdl_findIndex_13 (fun r4 S5 H locs e6 hP hS => ?_)
    refine lv_iadd hx hb d_Mdl_findIndex_16 ?_
    refine kv_s (rest := []) X hP hS (c_Mdl_far l D cB cI a bz ha S5 (((S.1 5) <<< ((16 : Int32) &&& 31)) + r4)) (kw_Mdl_far hts q_720 ⟨Nat.le_of_ble_eq_true rfl, Nat.le_of_ble_eq_true rfl⟩) 0 rfl rfl rfl hl.1 rfl (lv_room (Nat.le_of_ble_eq_true rfl)) d_Mdl_findIndex_17 (fun S7 H locs e8 hP hS => ?_)
    refine lv_goto (tgt := 28) hx hb d_Mdl_findIndex_20 rfl ?_
    exact rt_s X hr hk hP hS (by rw [f_Mdl_findIndex, if_neg h1, bn_eq e6, bs_eq e8]) d_Mdl_findIndex_28
set_option maxHeartbeats 4000000 in
set_option maxRecDepth 100000 in
theorem c_Mdl_indexOperand (l : Launch) (D : va_G) (cB cI : ClassId) (a : Nat → Nat) (bz : Nat) (ha : ap a 3) (S : Sc) (x1 : Int32) : MI l y_Mdl_indexOperand b_Mdl_indexOperand 2 (some .int) rm_Mdl_indexOperand [.ref (a 0), .int x1] D cB cI (wdT cI a) (ow a 3) bz S (f_Mdl_indexOperand S x1) := by
  refine met_in R_Mdl (by decide) rfl (Nat.le_of_ble_eq_true rfl) (wdT_D ha cI) ?_
  intro p e s m below meth c ls X hr hk hl hP hS
  have hx := X.1.1
  have hb := X.1.2.1
  have hown := X.1.2.2.2.1
  have hts := X.1.2.2.2.2
  have hl : lv_has ls 2 [(0, .ref (a 0)), (1, .int x1)] := hl
  refine lv_iload_n hx hb d_Mdl_indexOperand_0 rfl (lv_at hl 1 rfl) ?_
  refine lv_bipush (v := (15 : Int32)) hx hb d_Mdl_indexOperand_1 (by decide) ?_
  refine lv_iand hx hb d_Mdl_indexOperand_3 ?_
  refine lv_if_eq (tgt := 15) hx hb d_Mdl_indexOperand_4 rfl (fun h1 => ?_) (fun h1 => ?_)
  ·
    refine lv_aload_n hx hb d_Mdl_indexOperand_15 rfl (lv_at hl 0 rfl) ?_
    refine lv_aload_n hx hb d_Mdl_indexOperand_16 rfl (lv_at hl 0 rfl) ?_
    refine lv_bipush (v := (16 : Int32)) hx hb d_Mdl_indexOperand_17 (by decide) ?_
    refine kv_v (rest := [.ref (a 0)]) X hP hS (c_Mdl_is l D cB cI a bz ha S (16 : Int32)) (kw_Mdl_is hts q_635 ⟨Nat.le_of_ble_eq_true rfl, Nat.le_of_ble_eq_true rfl⟩) 0 rfl rfl rfl hl.1 rfl (lv_room (Nat.le_of_ble_eq_true rfl)) d_Mdl_indexOperand_19 (fun H locs hP hS => ?_)
    refine kv_vs (rest := []) X hP hS (c_Mdl_immediate l D cB cI a bz ha S (f_Mdl_is S (16 : Int32))) (kw_Mdl_immediate hts q_736 ⟨Nat.le_of_ble_eq_true rfl, Nat.le_of_ble_eq_true rfl⟩) 0 rfl rfl rfl hl.1 rfl (lv_room (Nat.le_of_ble_eq_true rfl)) d_Mdl_indexOperand_22 (fun r2 S3 H locs e4 hP hS => ?_)
    exact rt_vs X hr hk hP hS (by rw [f_Mdl_indexOperand, if_pos h1, bn_eq e4]) d_Mdl_indexOperand_25
  ·
    refine lv_iload_n hx hb d_Mdl_indexOperand_7 rfl (lv_at hl 1 rfl) ?_
    refine lv_bipush (v := (15 : Int32)) hx hb d_Mdl_indexOperand_8 (by decide) ?_
    refine lv_iand hx hb d_Mdl_indexOperand_10 ?_
    refine lv_iconst (v := (2 : Int32)) hx hb d_Mdl_indexOperand_11 (by decide) ?_
    refine lv_icmp_ne (tgt := 26) hx hb d_Mdl_indexOperand_12 rfl (fun h5 => ?_) (fun h5 => ?_)
    ·
      refine lv_aload_n hx hb d_Mdl_indexOperand_26 rfl (lv_at hl 0 rfl) ?_
      refine lv_iload_n hx hb d_Mdl_indexOperand_27 rfl (lv_at hl 1 rfl) ?_
      refine lv_bipush (v := (8 : Int32)) hx hb d_Mdl_indexOperand_28 (by decide) ?_
      refine lv_iand hx hb d_Mdl_indexOperand_30 ?_
      refine lv_if_eq (tgt := 38) hx hb d_Mdl_indexOperand_31 rfl (fun h6 => ?_) (fun h6 => ?_)
      ·
        refine lv_iconst (v := (0 : Int32)) hx hb d_Mdl_indexOperand_38 (by decide) ?_
        refine kv_s (rest := []) X hP hS (c_Mdl_findIndex l D cB cI a bz ha S (0 : Int32)) (kw_Mdl_findIndex hts q_782 ⟨Nat.le_of_ble_eq_true rfl, Nat.le_of_ble_eq_true rfl⟩) 0 rfl rfl rfl hl.1 rfl (lv_room (Nat.le_of_ble_eq_true rfl)) d_Mdl_indexOperand_39 (fun S7 H locs e8 hP hS => ?_)
        refine lv_aload_n hx hb d_Mdl_indexOperand_42 rfl (lv_at hl 0 rfl) ?_
        refine lv_aload_n hx hb d_Mdl_indexOperand_43 rfl (lv_at hl 0 rfl) ?_
        refine lv_bipush (v := (16 : Int32)) hx hb d_Mdl_indexOperand_44 (by decide) ?_
        refine kv_v (rest := [.ref (a 0)]) X hP hS (c_Mdl_is l D cB cI a bz ha S7 (16 : Int32)) (kw_Mdl_is hts q_635 ⟨Nat.le_of_ble_eq_true rfl, Nat.le_of_ble_eq_true rfl⟩) 0 rfl rfl rfl hl.1 rfl (lv_room (Nat.le_of_ble_eq_true rfl)) d_Mdl_indexOperand_46 (fun H locs hP hS => ?_)
        refine kv_vs (rest := []) X hP hS (c_Mdl_load l D cB cI a bz ha S7 (f_Mdl_is S7 (16 : Int32))) (kw_Mdl_load hts q_740 ⟨Nat.le_of_ble_eq_true rfl, Nat.le_of_ble_eq_true rfl⟩) 0 rfl rfl rfl hl.1 rfl (lv_room (Nat.le_of_ble_eq_true rfl)) d_Mdl_indexOperand_49 (fun r9 S10 H locs e11 hP hS => ?_)
        exact rt_vs X hr hk hP hS (by rw [f_Mdl_indexOperand, if_neg h1, if_neg h5, if_pos h6, bs_eq e8, bn_eq e11]) d_Mdl_indexOperand_52
      ·
        refine lv_iconst (v := (1 : Int32)) hx hb d_Mdl_indexOperand_34 (by decide) ?_
        refine lv_goto (tgt := 39) hx hb d_Mdl_indexOperand_35 rfl ?_
        refine kv_s (rest := []) X hP hS (c_Mdl_findIndex l D cB cI a bz ha S (1 : Int32)) (kw_Mdl_findIndex hts q_782 ⟨Nat.le_of_ble_eq_true rfl, Nat.le_of_ble_eq_true rfl⟩) 0 rfl rfl rfl hl.1 rfl (lv_room (Nat.le_of_ble_eq_true rfl)) d_Mdl_indexOperand_39 (fun S12 H locs e13 hP hS => ?_)
        refine lv_aload_n hx hb d_Mdl_indexOperand_42 rfl (lv_at hl 0 rfl) ?_
        refine lv_aload_n hx hb d_Mdl_indexOperand_43 rfl (lv_at hl 0 rfl) ?_
        refine lv_bipush (v := (16 : Int32)) hx hb d_Mdl_indexOperand_44 (by decide) ?_
        refine kv_v (rest := [.ref (a 0)]) X hP hS (c_Mdl_is l D cB cI a bz ha S12 (16 : Int32)) (kw_Mdl_is hts q_635 ⟨Nat.le_of_ble_eq_true rfl, Nat.le_of_ble_eq_true rfl⟩) 0 rfl rfl rfl hl.1 rfl (lv_room (Nat.le_of_ble_eq_true rfl)) d_Mdl_indexOperand_46 (fun H locs hP hS => ?_)
        refine kv_vs (rest := []) X hP hS (c_Mdl_load l D cB cI a bz ha S12 (f_Mdl_is S12 (16 : Int32))) (kw_Mdl_load hts q_740 ⟨Nat.le_of_ble_eq_true rfl, Nat.le_of_ble_eq_true rfl⟩) 0 rfl rfl rfl hl.1 rfl (lv_room (Nat.le_of_ble_eq_true rfl)) d_Mdl_indexOperand_49 (fun r14 S15 H locs e16 hP hS => ?_)
        exact rt_vs X hr hk hP hS (by rw [f_Mdl_indexOperand, if_neg h1, if_neg h5, if_neg h6, bs_eq e13, bn_eq e16]) d_Mdl_indexOperand_52
    ·
      refine lv_aload_n hx hb d_Mdl_indexOperand_15 rfl (lv_at hl 0 rfl) ?_
      refine lv_aload_n hx hb d_Mdl_indexOperand_16 rfl (lv_at hl 0 rfl) ?_
      refine lv_bipush (v := (16 : Int32)) hx hb d_Mdl_indexOperand_17 (by decide) ?_
      refine kv_v (rest := [.ref (a 0)]) X hP hS (c_Mdl_is l D cB cI a bz ha S (16 : Int32)) (kw_Mdl_is hts q_635 ⟨Nat.le_of_ble_eq_true rfl, Nat.le_of_ble_eq_true rfl⟩) 0 rfl rfl rfl hl.1 rfl (lv_room (Nat.le_of_ble_eq_true rfl)) d_Mdl_indexOperand_19 (fun H locs hP hS => ?_)
      refine kv_vs (rest := []) X hP hS (c_Mdl_immediate l D cB cI a bz ha S (f_Mdl_is S (16 : Int32))) (kw_Mdl_immediate hts q_736 ⟨Nat.le_of_ble_eq_true rfl, Nat.le_of_ble_eq_true rfl⟩) 0 rfl rfl rfl hl.1 rfl (lv_room (Nat.le_of_ble_eq_true rfl)) d_Mdl_indexOperand_22 (fun r17 S18 H locs e19 hP hS => ?_)
      exact rt_vs X hr hk hP hS (by rw [f_Mdl_indexOperand, if_neg h1, if_pos h5, bn_eq e19]) d_Mdl_indexOperand_25
set_option maxHeartbeats 4000000 in
set_option maxRecDepth 100000 in
theorem c_Mdl_storeAt (l : Launch) (D : va_G) (cB cI : ClassId) (a : Nat → Nat) (bz : Nat) (ha : ap a 3) (S : Sc) (x1 x2 x3 : Int32) : MV l y_Mdl_storeAt b_Mdl_storeAt 4 rm_Mdl_storeAt [.ref (a 0), .int x1, .int x2, .int x3] D cB cI (wdT cI a) (ow a 3) bz S (f_Mdl_storeAt S x1 x2 x3) := by
  refine met_in R_Mdl (by decide) rfl (Nat.le_of_ble_eq_true rfl) (wdT_D ha cI) ?_
  intro p e s m below meth c ls X hr hk hl hP hS
  have hx := X.1.1
  have hb := X.1.2.1
  have hown := X.1.2.2.2.1
  have hts := X.1.2.2.2.2
  have hl : lv_has ls 4 [(0, .ref (a 0)), (1, .int x1), (2, .int x2), (3, .int x3)] := hl
  refine lv_aload_n hx hb d_Mdl_storeAt_0 rfl (lv_at hl 0 rfl) ?_
  refine lv_iload_n hx hb d_Mdl_storeAt_1 rfl (lv_at hl 1 rfl) ?_
  refine kv_s (rest := []) X hP hS (c_Mdl_findIndex l D cB cI a bz ha S x1) (kw_Mdl_findIndex hts q_782 ⟨Nat.le_of_ble_eq_true rfl, Nat.le_of_ble_eq_true rfl⟩) 0 rfl rfl rfl hl.1 rfl (lv_room (Nat.le_of_ble_eq_true rfl)) d_Mdl_storeAt_2 (fun S1 H locs e2 hP hS => ?_)
  refine lv_aload_n hx hb d_Mdl_storeAt_5 rfl (lv_at hl 0 rfl) ?_
  refine lv_iload_n hx hb d_Mdl_storeAt_6 rfl (lv_at hl 2 rfl) ?_
  refine lv_iload_n hx hb d_Mdl_storeAt_7 rfl (lv_at hl 3 rfl) ?_
  refine kv_s (rest := []) X hP hS (c_Mdl_store l D cB cI a bz ha S1 x2 x3) (kw_Mdl_store hts q_732 ⟨Nat.le_of_ble_eq_true rfl, Nat.le_of_ble_eq_true rfl⟩) 0 rfl rfl rfl hl.1 rfl (lv_room (Nat.le_of_ble_eq_true rfl)) d_Mdl_storeAt_8 (fun S3 H locs e4 hP hS => ?_)
  exact rt_s X hr hk hP hS (by rw [f_Mdl_storeAt, bs_eq e2, bs_eq e4]) d_Mdl_storeAt_11
set_option maxHeartbeats 4000000 in
set_option maxRecDepth 100000 in
theorem c_Mdl_pushOf (l : Launch) (D : va_G) (cB cI : ClassId) (a : Nat → Nat) (bz : Nat) (ha : ap a 3) (S : Sc) (x1 x2 : Int32) : MV l y_Mdl_pushOf b_Mdl_pushOf 3 rm_Mdl_pushOf [.ref (a 0), .int x1, .int x2] D cB cI (wdT cI a) (ow a 3) bz S (f_Mdl_pushOf S x1 x2) := by
  refine met_in R_Mdl (by decide) rfl (Nat.le_of_ble_eq_true rfl) (wdT_D ha cI) ?_
  intro p e s m below meth c ls X hr hk hl hP hS
  have hx := X.1.1
  have hb := X.1.2.1
  have hown := X.1.2.2.2.1
  have hts := X.1.2.2.2.2
  have hl : lv_has ls 3 [(0, .ref (a 0)), (1, .int x1), (2, .int x2)] := hl
  refine lv_iload_n hx hb d_Mdl_pushOf_0 rfl (lv_at hl 2 rfl) ?_
  refine lv_if_eq (tgt := 12) hx hb d_Mdl_pushOf_1 rfl (fun h1 => ?_) (fun h1 => ?_)
  ·
    refine lv_aload_n hx hb d_Mdl_pushOf_12 rfl (lv_at hl 0 rfl) ?_
    refine lv_iload_n hx hb d_Mdl_pushOf_13 rfl (lv_at hl 1 rfl) ?_
    refine kv_s (rest := []) X hP hS (c_Mdl_pushWord l D cB cI a bz ha S x1) (kw_Mdl_pushWord hts q_678 ⟨Nat.le_of_ble_eq_true rfl, Nat.le_of_ble_eq_true rfl⟩) 0 rfl rfl rfl hl.1 rfl (lv_room (Nat.le_of_ble_eq_true rfl)) d_Mdl_pushOf_14 (fun S2 H locs e3 hP hS => ?_)
    exact rt_s X hr hk hP hS (by rw [f_Mdl_pushOf, if_pos h1, bs_eq e3]) d_Mdl_pushOf_17
  ·
    refine lv_aload_n hx hb d_Mdl_pushOf_4 rfl (lv_at hl 0 rfl) ?_
    refine lv_iload_n hx hb d_Mdl_pushOf_5 rfl (lv_at hl 1 rfl) ?_
    refine kv_s (rest := []) X hP hS (c_Mdl_push l D cB cI a bz ha S x1) (kw_Mdl_push hts q_663 ⟨Nat.le_of_ble_eq_true rfl, Nat.le_of_ble_eq_true rfl⟩) 0 rfl rfl rfl hl.1 rfl (lv_room (Nat.le_of_ble_eq_true rfl)) d_Mdl_pushOf_6 (fun S4 H locs e5 hP hS => ?_)
    refine lv_goto (tgt := 17) hx hb d_Mdl_pushOf_9 rfl ?_
    exact rt_s X hr hk hP hS (by rw [f_Mdl_pushOf, if_neg h1, bs_eq e5]) d_Mdl_pushOf_17
set_option maxHeartbeats 4000000 in
set_option maxRecDepth 100000 in
theorem c_Mdl_pullOf (l : Launch) (D : va_G) (cB cI : ClassId) (a : Nat → Nat) (bz : Nat) (ha : ap a 3) (S : Sc) (x1 : Int32) : MI l y_Mdl_pullOf b_Mdl_pullOf 2 (some .int) rm_Mdl_pullOf [.ref (a 0), .int x1] D cB cI (wdT cI a) (ow a 3) bz S (f_Mdl_pullOf S x1) := by
  refine met_in R_Mdl (by decide) rfl (Nat.le_of_ble_eq_true rfl) (wdT_D ha cI) ?_
  intro p e s m below meth c ls X hr hk hl hP hS
  have hx := X.1.1
  have hb := X.1.2.1
  have hown := X.1.2.2.2.1
  have hts := X.1.2.2.2.2
  have hl : lv_has ls 2 [(0, .ref (a 0)), (1, .int x1)] := hl
  refine lv_aload_n hx hb d_Mdl_pullOf_0 rfl (lv_at hl 0 rfl) ?_
  refine lv_iload_n hx hb d_Mdl_pullOf_1 rfl (lv_at hl 1 rfl) ?_
  refine lv_if_eq (tgt := 12) hx hb d_Mdl_pullOf_2 rfl (fun h1 => ?_) (fun h1 => ?_)
  ·
    refine lv_aload_n hx hb d_Mdl_pullOf_12 rfl (lv_at hl 0 rfl) ?_
    refine kv_vs (rest := [.ref (a 0)]) X hP hS (c_Mdl_pullWord l D cB cI a bz ha S) (kw_Mdl_pullWord hts q_810 ⟨Nat.le_of_ble_eq_true rfl, Nat.le_of_ble_eq_true rfl⟩) 0 rfl rfl rfl hl.1 rfl (lv_room (Nat.le_of_ble_eq_true rfl)) d_Mdl_pullOf_13 (fun r2 S3 H locs e4 hP hS => ?_)
    refine lv_iload_n hx hb d_Mdl_pullOf_16 rfl (lv_at hl 1 rfl) ?_
    refine kv_vs (rest := []) X hP hS (c_Mdl_result l D cB cI a bz ha S3 r2 x1) (kw_Mdl_result hts q_749 ⟨Nat.le_of_ble_eq_true rfl, Nat.le_of_ble_eq_true rfl⟩) 0 rfl rfl rfl hl.1 rfl (lv_room (Nat.le_of_ble_eq_true rfl)) d_Mdl_pullOf_17 (fun r5 S6 H locs e7 hP hS => ?_)
    exact rt_vs X hr hk hP hS (by rw [f_Mdl_pullOf, if_pos h1, bn_eq e4, bn_eq e7]) d_Mdl_pullOf_20
  ·
    refine lv_aload_n hx hb d_Mdl_pullOf_5 rfl (lv_at hl 0 rfl) ?_
    refine kv_vs (rest := [.ref (a 0)]) X hP hS (c_Mdl_pull l D cB cI a bz ha S) (kw_Mdl_pull hts q_806 ⟨Nat.le_of_ble_eq_true rfl, Nat.le_of_ble_eq_true rfl⟩) 0 rfl rfl rfl hl.1 rfl (lv_room (Nat.le_of_ble_eq_true rfl)) d_Mdl_pullOf_6 (fun r8 S9 H locs e10 hP hS => ?_)
    refine lv_goto (tgt := 16) hx hb d_Mdl_pullOf_9 rfl ?_
    refine lv_iload_n hx hb d_Mdl_pullOf_16 rfl (lv_at hl 1 rfl) ?_
    refine kv_vs (rest := []) X hP hS (c_Mdl_result l D cB cI a bz ha S9 r8 x1) (kw_Mdl_result hts q_749 ⟨Nat.le_of_ble_eq_true rfl, Nat.le_of_ble_eq_true rfl⟩) 0 rfl rfl rfl hl.1 rfl (lv_room (Nat.le_of_ble_eq_true rfl)) d_Mdl_pullOf_17 (fun r11 S12 H locs e13 hP hS => ?_)
    exact rt_vs X hr hk hP hS (by rw [f_Mdl_pullOf, if_neg h1, bn_eq e10, bn_eq e13]) d_Mdl_pullOf_20
set_option maxHeartbeats 4000000 in
set_option maxRecDepth 100000 in
theorem c_Mdl_branch (l : Launch) (D : va_G) (cB cI : ClassId) (a : Nat → Nat) (bz : Nat) (ha : ap a 3) (S : Sc) (x1 : Int32) : MV l y_Mdl_branch b_Mdl_branch 3 rm_Mdl_branch [.ref (a 0), .int x1] D cB cI (wdT cI a) (ow a 3) bz S (f_Mdl_branch S x1) := by
  refine met_in R_Mdl (by decide) rfl (Nat.le_of_ble_eq_true rfl) (wdT_D ha cI) ?_
  intro p e s m below meth c ls X hr hk hl hP hS
  have hx := X.1.1
  have hb := X.1.2.1
  have hown := X.1.2.2.2.1
  have hts := X.1.2.2.2.2
  have hl : lv_has ls 3 [(0, .ref (a 0)), (1, .int x1)] := hl
  refine lv_aload_n hx hb d_Mdl_branch_0 rfl (lv_at hl 0 rfl) ?_
  refine kv_vs (rest := []) X hP hS (c_Mdl_next l D cB cI a bz ha S) (kw_Mdl_next hts q_700 ⟨Nat.le_of_ble_eq_true rfl, Nat.le_of_ble_eq_true rfl⟩) 0 rfl rfl rfl hl.1 rfl (lv_room (Nat.le_of_ble_eq_true rfl)) d_Mdl_branch_1 (fun r1 S2 H locs e3 hP hS => ?_)
  refine lv_istore_n hx hb d_Mdl_branch_4 rfl hl (Nat.le_of_ble_eq_true rfl) rfl (fun ls hl => ?_)
  have hl : lv_has ls 3 [(2, .int (r1)), (0, .ref (a 0)), (1, .int (x1))] := hl
  refine lv_iload_n hx hb d_Mdl_branch_5 rfl (lv_at hl 0 rfl) ?_
  refine lv_bipush (v := (127 : Int32)) hx hb d_Mdl_branch_6 (by decide) ?_
  refine lv_icmp_le (tgt := 19) hx hb d_Mdl_branch_8 rfl (fun h4 => ?_) (fun h4 => ?_)
  ·
    refine lv_iload_n hx hb d_Mdl_branch_19 rfl (lv_at hl 0 rfl) ?_
    refine lv_istore_n hx hb d_Mdl_branch_20 rfl hl (Nat.le_of_ble_eq_true rfl) rfl (fun ls hl => ?_)
    have hl : lv_has ls 3 [(2, .int (r1)), (0, .ref (a 0)), (1, .int (x1))] := hl
    refine lv_aload_n hx hb d_Mdl_branch_21 rfl (lv_at hl 1 rfl) ?_
    refine lv_iload_n hx hb d_Mdl_branch_22 rfl (lv_at hl 2 rfl) ?_
    refine lv_if_eq (tgt := 38) hx hb d_Mdl_branch_23 rfl (fun h5 => ?_) (fun h5 => ?_)
    ·
      refine lv_aload_n hx hb d_Mdl_branch_38 rfl (lv_at hl 1 rfl) ?_
      refine gt_Mdl X hP 9 (by decide) (v := .int (S2.1 8)) q_572 rfl d_Mdl_branch_39 ?_
      refine pt_Mdl X hP hS 9 (by decide) (v := S2.1 8) (S1 := (pr S2 8 (S2.1 8))) q_572 rfl rfl rfl rfl d_Mdl_branch_42 (fun H locs hP hS => ?_)
      exact rt_s X hr hk hP hS (by rw [f_Mdl_branch, bn_eq e3, if_pos h4, if_pos h5]) d_Mdl_branch_45
    ·
      refine lv_aload_n hx hb d_Mdl_branch_26 rfl (lv_at hl 1 rfl) ?_
      refine gt_Mdl X hP 9 (by decide) (v := .int (S2.1 8)) q_572 rfl d_Mdl_branch_27 ?_
      refine lv_iload_n hx hb d_Mdl_branch_30 rfl (lv_at hl 0 rfl) ?_
      refine lv_iadd hx hb d_Mdl_branch_31 ?_
      refine lv_ldc (v := (65535 : Int32)) hx hb hown (hts _ q_630) d_Mdl_branch_32 ?_
      refine lv_iand hx hb d_Mdl_branch_34 ?_
      refine lv_goto (tgt := 42) hx hb d_Mdl_branch_35 rfl ?_
      refine pt_Mdl X hP hS 9 (by decide) (v := (((S2.1 8) + r1) &&& (65535 : Int32))) (S1 := (pr S2 8 ((((S2.1 8) + r1) &&& (65535 : Int32))))) q_572 rfl rfl rfl rfl d_Mdl_branch_42 (fun H locs hP hS => ?_)
      exact rt_s X hr hk hP hS (by rw [f_Mdl_branch, bn_eq e3, if_pos h4, if_neg h5]) d_Mdl_branch_45
  ·
    refine lv_iload_n hx hb d_Mdl_branch_11 rfl (lv_at hl 0 rfl) ?_
    refine lv_sipush (v := (256 : Int32)) hx hb d_Mdl_branch_12 (by decide) ?_
    refine lv_isub hx hb d_Mdl_branch_15 ?_
    refine lv_goto (tgt := 20) hx hb d_Mdl_branch_16 rfl ?_
    refine lv_istore_n hx hb d_Mdl_branch_20 rfl hl (Nat.le_of_ble_eq_true rfl) rfl (fun ls hl => ?_)
    have hl : lv_has ls 3 [(2, .int ((r1 - (256 : Int32)))), (0, .ref (a 0)), (1, .int (x1))] := hl
    refine lv_aload_n hx hb d_Mdl_branch_21 rfl (lv_at hl 1 rfl) ?_
    refine lv_iload_n hx hb d_Mdl_branch_22 rfl (lv_at hl 2 rfl) ?_
    refine lv_if_eq (tgt := 38) hx hb d_Mdl_branch_23 rfl (fun h6 => ?_) (fun h6 => ?_)
    ·
      refine lv_aload_n hx hb d_Mdl_branch_38 rfl (lv_at hl 1 rfl) ?_
      refine gt_Mdl X hP 9 (by decide) (v := .int (S2.1 8)) q_572 rfl d_Mdl_branch_39 ?_
      refine pt_Mdl X hP hS 9 (by decide) (v := S2.1 8) (S1 := (pr S2 8 (S2.1 8))) q_572 rfl rfl rfl rfl d_Mdl_branch_42 (fun H locs hP hS => ?_)
      exact rt_s X hr hk hP hS (by rw [f_Mdl_branch, bn_eq e3, if_neg h4, if_pos h6]) d_Mdl_branch_45
    ·
      refine lv_aload_n hx hb d_Mdl_branch_26 rfl (lv_at hl 1 rfl) ?_
      refine gt_Mdl X hP 9 (by decide) (v := .int (S2.1 8)) q_572 rfl d_Mdl_branch_27 ?_
      refine lv_iload_n hx hb d_Mdl_branch_30 rfl (lv_at hl 0 rfl) ?_
      refine lv_iadd hx hb d_Mdl_branch_31 ?_
      refine lv_ldc (v := (65535 : Int32)) hx hb hown (hts _ q_630) d_Mdl_branch_32 ?_
      refine lv_iand hx hb d_Mdl_branch_34 ?_
      refine lv_goto (tgt := 42) hx hb d_Mdl_branch_35 rfl ?_
      refine pt_Mdl X hP hS 9 (by decide) (v := (((S2.1 8) + (r1 - (256 : Int32))) &&& (65535 : Int32))) (S1 := (pr S2 8 ((((S2.1 8) + (r1 - (256 : Int32))) &&& (65535 : Int32))))) q_572 rfl rfl rfl rfl d_Mdl_branch_42 (fun H locs hP hS => ?_)
      exact rt_s X hr hk hP hS (by rw [f_Mdl_branch, bn_eq e3, if_neg h4, if_neg h6]) d_Mdl_branch_45
set_option maxHeartbeats 4000000 in
set_option maxRecDepth 100000 in
theorem c_Mdl_call (l : Launch) (D : va_G) (cB cI : ClassId) (a : Nat → Nat) (bz : Nat) (ha : ap a 3) (S : Sc) (x1 : Int32) : MV l y_Mdl_call b_Mdl_call 2 rm_Mdl_call [.ref (a 0), .int x1] D cB cI (wdT cI a) (ow a 3) bz S (f_Mdl_call S x1) := by
  refine met_in R_Mdl (by decide) rfl (Nat.le_of_ble_eq_true rfl) (wdT_D ha cI) ?_
  intro p e s m below meth c ls X hr hk hl hP hS
  have hx := X.1.1
  have hb := X.1.2.1
  have hown := X.1.2.2.2.1
  have hts := X.1.2.2.2.2
  have hl : lv_has ls 2 [(0, .ref (a 0)), (1, .int x1)] := hl
  refine lv_aload_n hx hb d_Mdl_call_0 rfl (lv_at hl 0 rfl) ?_
  refine lv_aload_n hx hb d_Mdl_call_1 rfl (lv_at hl 0 rfl) ?_
  refine gt_Mdl X hP 9 (by decide) (v := .int (S.1 8)) q_572 rfl d_Mdl_call_2 ?_
  refine lv_iconst (v := (1 : Int32)) hx hb d_Mdl_call_5 (by decide) ?_
  refine lv_isub hx hb d_Mdl_call_6 ?_
  refine lv_ldc (v := (65535 : Int32)) hx hb hown (hts _ q_630) d_Mdl_call_7 ?_
  refine lv_iand hx hb d_Mdl_call_9 ?_
  refine kv_s (rest := []) X hP hS (c_Mdl_pushWord l D cB cI a bz ha S (((S.1 8) - (1 : Int32)) &&& (65535 : Int32))) (kw_Mdl_pushWord hts q_678 ⟨Nat.le_of_ble_eq_true rfl, Nat.le_of_ble_eq_true rfl⟩) 0 rfl rfl rfl hl.1 rfl (lv_room (Nat.le_of_ble_eq_true rfl)) d_Mdl_call_10 (fun S1 H locs e2 hP hS => ?_)
  refine lv_aload_n hx hb d_Mdl_call_13 rfl (lv_at hl 0 rfl) ?_
  refine lv_iload_n hx hb d_Mdl_call_14 rfl (lv_at hl 1 rfl) ?_
  refine lv_ldc (v := (65535 : Int32)) hx hb hown (hts _ q_630) d_Mdl_call_15 ?_
  refine lv_iand hx hb d_Mdl_call_17 ?_
  refine pt_Mdl X hP hS 9 (by decide) (v := (x1 &&& (65535 : Int32))) (S1 := (pr S1 8 ((x1 &&& (65535 : Int32))))) q_572 rfl rfl rfl rfl d_Mdl_call_18 (fun H locs hP hS => ?_)
  exact rt_s X hr hk hP hS (by rw [f_Mdl_call, bs_eq e2]) d_Mdl_call_21
set_option maxHeartbeats 4000000 in
set_option maxRecDepth 100000 in
theorem c_Mdl_interruptFrom (l : Launch) (D : va_G) (cB cI : ClassId) (a : Nat → Nat) (bz : Nat) (ha : ap a 3) (S : Sc) (x1 : Int32) : MV l y_Mdl_interruptFrom b_Mdl_interruptFrom 2 rm_Mdl_interruptFrom [.ref (a 0), .int x1] D cB cI (wdT cI a) (ow a 3) bz S (f_Mdl_interruptFrom S x1) := by
  refine met_in R_Mdl (by decide) rfl (Nat.le_of_ble_eq_true rfl) (wdT_D ha cI) ?_
  intro p e s m below meth c ls X hr hk hl hP hS
  have hx := X.1.1
  have hb := X.1.2.1
  have hown := X.1.2.2.2.1
  have hts := X.1.2.2.2.2
  have hl : lv_has ls 2 [(0, .ref (a 0)), (1, .int x1)] := hl
  refine lv_aload_n hx hb d_Mdl_interruptFrom_0 rfl (lv_at hl 0 rfl) ?_
  refine lv_aload_n hx hb d_Mdl_interruptFrom_1 rfl (lv_at hl 0 rfl) ?_
  refine gt_Mdl X hP 8 (by decide) (v := .int (S.1 7)) q_571 rfl d_Mdl_interruptFrom_2 ?_
  refine kv_s (rest := []) X hP hS (c_Mdl_push l D cB cI a bz ha S (S.1 7)) (kw_Mdl_push hts q_663 ⟨Nat.le_of_ble_eq_true rfl, Nat.le_of_ble_eq_true rfl⟩) 0 rfl rfl rfl hl.1 rfl (lv_room (Nat.le_of_ble_eq_true rfl)) d_Mdl_interruptFrom_5 (fun S1 H locs e2 hP hS => ?_)
  refine lv_aload_n hx hb d_Mdl_interruptFrom_8 rfl (lv_at hl 0 rfl) ?_
  refine lv_aload_n hx hb d_Mdl_interruptFrom_9 rfl (lv_at hl 0 rfl) ?_
  refine gt_Mdl X hP 9 (by decide) (v := .int (S1.1 8)) q_572 rfl d_Mdl_interruptFrom_10 ?_
  refine kv_s (rest := []) X hP hS (c_Mdl_pushWord l D cB cI a bz ha S1 (S1.1 8)) (kw_Mdl_pushWord hts q_678 ⟨Nat.le_of_ble_eq_true rfl, Nat.le_of_ble_eq_true rfl⟩) 0 rfl rfl rfl hl.1 rfl (lv_room (Nat.le_of_ble_eq_true rfl)) d_Mdl_interruptFrom_13 (fun S3 H locs e4 hP hS => ?_)
  refine lv_aload_n hx hb d_Mdl_interruptFrom_16 rfl (lv_at hl 0 rfl) ?_
  refine lv_aload_n hx hb d_Mdl_interruptFrom_17 rfl (lv_at hl 0 rfl) ?_
  refine gt_Mdl X hP 7 (by decide) (v := .int (S3.1 6)) q_570 rfl d_Mdl_interruptFrom_18 ?_
  refine kv_s (rest := []) X hP hS (c_Mdl_push l D cB cI a bz ha S3 (S3.1 6)) (kw_Mdl_push hts q_663 ⟨Nat.le_of_ble_eq_true rfl, Nat.le_of_ble_eq_true rfl⟩) 0 rfl rfl rfl hl.1 rfl (lv_room (Nat.le_of_ble_eq_true rfl)) d_Mdl_interruptFrom_21 (fun S5 H locs e6 hP hS => ?_)
  refine lv_aload_n hx hb d_Mdl_interruptFrom_24 rfl (lv_at hl 0 rfl) ?_
  refine lv_iconst (v := (4 : Int32)) hx hb d_Mdl_interruptFrom_25 (by decide) ?_
  refine lv_iconst (v := (1 : Int32)) hx hb d_Mdl_interruptFrom_26 (by decide) ?_
  refine kv_s (rest := []) X hP hS (c_Mdl_flag l D cB cI a bz ha S5 (4 : Int32) (1 : Int32)) (kw_Mdl_flag hts q_682 ⟨Nat.le_of_ble_eq_true rfl, Nat.le_of_ble_eq_true rfl⟩) 0 rfl rfl rfl hl.1 rfl (lv_room (Nat.le_of_ble_eq_true rfl)) d_Mdl_interruptFrom_27 (fun S7 H locs e8 hP hS => ?_)
  refine lv_aload_n hx hb d_Mdl_interruptFrom_30 rfl (lv_at hl 0 rfl) ?_
  refine lv_bipush (v := (8 : Int32)) hx hb d_Mdl_interruptFrom_31 (by decide) ?_
  refine lv_iconst (v := (0 : Int32)) hx hb d_Mdl_interruptFrom_33 (by decide) ?_
  refine kv_s (rest := []) X hP hS (c_Mdl_flag l D cB cI a bz ha S7 (8 : Int32) (0 : Int32)) (kw_Mdl_flag hts q_682 ⟨Nat.le_of_ble_eq_true rfl, Nat.le_of_ble_eq_true rfl⟩) 0 rfl rfl rfl hl.1 rfl (lv_room (Nat.le_of_ble_eq_true rfl)) d_Mdl_interruptFrom_34 (fun S9 H locs e10 hP hS => ?_)
  refine lv_aload_n hx hb d_Mdl_interruptFrom_37 rfl (lv_at hl 0 rfl) ?_
  refine lv_iconst (v := (0 : Int32)) hx hb d_Mdl_interruptFrom_38 (by decide) ?_
  refine pt_Mdl X hP hS 8 (by decide) (v := (0 : Int32)) (S1 := (pr S9 7 ((0 : Int32)))) q_571 rfl rfl rfl rfl d_Mdl_interruptFrom_39 (fun H locs hP hS => ?_)
  refine lv_aload_n hx hb d_Mdl_interruptFrom_42 rfl (lv_at hl 0 rfl) ?_
  refine lv_aload_n hx hb d_Mdl_interruptFrom_43 rfl (lv_at hl 0 rfl) ?_
  refine lv_iload_n hx hb d_Mdl_interruptFrom_44 rfl (lv_at hl 1 rfl) ?_
  refine lv_iconst (v := (1 : Int32)) hx hb d_Mdl_interruptFrom_45 (by decide) ?_
  refine kv_vs (rest := [.ref (a 0)]) X hP hS (c_Mdl_readWord l D cB cI a bz ha (pr S9 7 ((0 : Int32))) x1 (1 : Int32)) (kw_Mdl_readWord hts q_686 ⟨Nat.le_of_ble_eq_true rfl, Nat.le_of_ble_eq_true rfl⟩) 0 rfl rfl rfl hl.1 rfl (lv_room (Nat.le_of_ble_eq_true rfl)) d_Mdl_interruptFrom_46 (fun r11 S12 H locs e13 hP hS => ?_)
  refine pt_Mdl X hP hS 9 (by decide) (v := r11) (S1 := (pr S12 8 (r11))) q_572 rfl rfl rfl rfl d_Mdl_interruptFrom_49 (fun H locs hP hS => ?_)
  exact rt_s X hr hk hP hS (by rw [f_Mdl_interruptFrom, bs_eq e2, bs_eq e4, bs_eq e6, bs_eq e8, bs_eq e10, bn_eq e13]) d_Mdl_interruptFrom_52
set_option maxHeartbeats 4000000 in
set_option maxRecDepth 100000 in
theorem c_Mdl_moveBlock (l : Launch) (D : va_G) (cB cI : ClassId) (a : Nat → Nat) (bz : Nat) (ha : ap a 3) (S : Sc) (x1 : Int32) : MV l y_Mdl_moveBlock b_Mdl_moveBlock 6 rm_Mdl_moveBlock [.ref (a 0), .int x1] D cB cI (wdT cI a) (ow a 3) bz S (f_Mdl_moveBlock S x1) := by
  refine met_in R_Mdl (by decide) rfl (Nat.le_of_ble_eq_true rfl) (wdT_D ha cI) ?_
  intro p e s m below meth c ls X hr hk hl hP hS
  have hx := X.1.1
  have hb := X.1.2.1
  have hown := X.1.2.2.2.1
  have hts := X.1.2.2.2.2
  have hl : lv_has ls 6 [(0, .ref (a 0)), (1, .int x1)] := hl
  refine lv_aload_n hx hb d_Mdl_moveBlock_0 rfl (lv_at hl 0 rfl) ?_
  refine gt_Mdl X hP 9 (by decide) (v := .int (S.1 8)) q_572 rfl d_Mdl_moveBlock_1 ?_
  refine lv_iconst (v := (1 : Int32)) hx hb d_Mdl_moveBlock_4 (by decide) ?_
  refine lv_isub hx hb d_Mdl_moveBlock_5 ?_
  refine lv_ldc (v := (65535 : Int32)) hx hb hown (hts _ q_630) d_Mdl_moveBlock_6 ?_
  refine lv_iand hx hb d_Mdl_moveBlock_8 ?_
  refine lv_istore_n hx hb d_Mdl_moveBlock_9 rfl hl (Nat.le_of_ble_eq_true rfl) rfl (fun ls hl => ?_)
  have hl : lv_has ls 6 [(2, .int ((((S.1 8) - (1 : Int32)) &&& (65535 : Int32)))), (0, .ref (a 0)), (1, .int (x1))] := hl
  refine lv_aload_n hx hb d_Mdl_moveBlock_10 rfl (lv_at hl 1 rfl) ?_
  refine kv_vs (rest := []) X hP hS (c_Mdl_next l D cB cI a bz ha S) (kw_Mdl_next hts q_700 ⟨Nat.le_of_ble_eq_true rfl, Nat.le_of_ble_eq_true rfl⟩) 0 rfl rfl rfl hl.1 rfl (lv_room (Nat.le_of_ble_eq_true rfl)) d_Mdl_moveBlock_11 (fun r1 S2 H locs e3 hP hS => ?_)
  refine lv_istore_n hx hb d_Mdl_moveBlock_14 rfl hl (Nat.le_of_ble_eq_true rfl) rfl (fun ls hl => ?_)
  have hl : lv_has ls 6 [(3, .int (r1)), (2, .int ((((S.1 8) - (1 : Int32)) &&& (65535 : Int32)))), (0, .ref (a 0)), (1, .int (x1))] := hl
  refine lv_aload_n hx hb d_Mdl_moveBlock_15 rfl (lv_at hl 2 rfl) ?_
  refine kv_vs (rest := []) X hP hS (c_Mdl_next l D cB cI a bz ha S2) (kw_Mdl_next hts q_700 ⟨Nat.le_of_ble_eq_true rfl, Nat.le_of_ble_eq_true rfl⟩) 0 rfl rfl rfl hl.1 rfl (lv_room (Nat.le_of_ble_eq_true rfl)) d_Mdl_moveBlock_16 (fun r4 S5 H locs e6 hP hS => ?_)
  refine lv_istore hx hb d_Mdl_moveBlock_19 hl (Nat.le_of_ble_eq_true rfl) rfl (fun ls hl => ?_)
  have hl : lv_has ls 6 [(4, .int (r4)), (3, .int (r1)), (2, .int ((((S.1 8) - (1 : Int32)) &&& (65535 : Int32)))), (0, .ref (a 0)), (1, .int (x1))] := hl
  refine lv_aload_n hx hb d_Mdl_moveBlock_21 rfl (lv_at hl 3 rfl) ?_
  refine lv_iload_n hx hb d_Mdl_moveBlock_22 rfl (lv_at hl 1 rfl) ?_
  refine pt_Mdl X hP hS 6 (by decide) (v := r1) (S1 := (pr S5 5 (r1))) q_569 rfl rfl rfl rfl d_Mdl_moveBlock_23 (fun H locs hP hS => ?_)
  refine lv_aload_n hx hb d_Mdl_moveBlock_26 rfl (lv_at hl 3 rfl) ?_
  refine lv_iload hx hb d_Mdl_moveBlock_27 (lv_at hl 0 rfl) ?_
  refine lv_bipush (v := (16 : Int32)) hx hb d_Mdl_moveBlock_29 (by decide) ?_
  refine lv_ishl hx hb d_Mdl_moveBlock_31 ?_
  refine lv_aload_n hx hb d_Mdl_moveBlock_32 rfl (lv_at hl 3 rfl) ?_
  refine gt_Mdl X hP 2 (by decide) (v := .int (S5.1 1)) q_565 rfl d_Mdl_moveBlock_33 ?_
  refine lv_ior hx hb d_Mdl_moveBlock_36 ?_
  refine kv_vs (rest := []) X hP hS (c_Mdl_read l D cB cI a bz ha (pr S5 5 (r1)) ((r4 <<< ((16 : Int32) &&& 31)) ||| (S5.1 1))) (kw_Mdl_read hts q_690 ⟨Nat.le_of_ble_eq_true rfl, Nat.le_of_ble_eq_true rfl⟩) 0 rfl rfl rfl hl.1 rfl (lv_room (Nat.le_of_ble_eq_true rfl)) d_Mdl_moveBlock_37 (fun r7 S8 H locs e9 hP hS => ?_)
  refine lv_istore hx hb d_Mdl_moveBlock_40 hl (Nat.le_of_ble_eq_true rfl) rfl (fun ls hl => ?_)
  have hl : lv_has ls 6 [(5, .int (r7)), (4, .int (r4)), (3, .int (r1)), (2, .int ((((S.1 8) - (1 : Int32)) &&& (65535 : Int32)))), (0, .ref (a 0)), (1, .int (x1))] := hl
  refine lv_aload_n hx hb d_Mdl_moveBlock_42 rfl (lv_at hl 4 rfl) ?_
  refine lv_iload_n hx hb d_Mdl_moveBlock_43 rfl (lv_at hl 2 rfl) ?_
  refine lv_bipush (v := (16 : Int32)) hx hb d_Mdl_moveBlock_44 (by decide) ?_
  refine lv_ishl hx hb d_Mdl_moveBlock_46 ?_
  refine lv_aload_n hx hb d_Mdl_moveBlock_47 rfl (lv_at hl 4 rfl) ?_
  refine gt_Mdl X hP 3 (by decide) (v := .int (S8.1 2)) q_566 rfl d_Mdl_moveBlock_48 ?_
  refine lv_ior hx hb d_Mdl_moveBlock_51 ?_
  refine lv_iload hx hb d_Mdl_moveBlock_52 (lv_at hl 0 rfl) ?_
  refine kv_s (rest := []) X hP hS (c_Mdl_write l D cB cI a bz ha S8 ((r1 <<< ((16 : Int32) &&& 31)) ||| (S8.1 2)) r7) (kw_Mdl_write hts q_667 ⟨Nat.le_of_ble_eq_true rfl, Nat.le_of_ble_eq_true rfl⟩) 0 rfl rfl rfl hl.1 rfl (lv_room (Nat.le_of_ble_eq_true rfl)) d_Mdl_moveBlock_54 (fun S10 H locs e11 hP hS => ?_)
  refine lv_aload_n hx hb d_Mdl_moveBlock_57 rfl (lv_at hl 4 rfl) ?_
  refine lv_aload_n hx hb d_Mdl_moveBlock_58 rfl (lv_at hl 4 rfl) ?_
  refine lv_aload_n hx hb d_Mdl_moveBlock_59 rfl (lv_at hl 4 rfl) ?_
  refine gt_Mdl X hP 2 (by decide) (v := .int (S10.1 1)) q_565 rfl d_Mdl_moveBlock_60 ?_
  refine lv_iload_n hx hb d_Mdl_moveBlock_63 rfl (lv_at hl 5 rfl) ?_
  refine lv_iadd hx hb d_Mdl_moveBlock_64 ?_
  refine lv_aload_n hx hb d_Mdl_moveBlock_65 rfl (lv_at hl 4 rfl) ?_
  refine lv_bipush (v := (16 : Int32)) hx hb d_Mdl_moveBlock_66 (by decide) ?_
  refine kv_v (rest := [.int (((S10.1 1) + x1)), .ref (a 0), .ref (a 0)]) X hP hS (c_Mdl_is l D cB cI a bz ha S10 (16 : Int32)) (kw_Mdl_is hts q_635 ⟨Nat.le_of_ble_eq_true rfl, Nat.le_of_ble_eq_true rfl⟩) 0 rfl rfl rfl hl.1 rfl (lv_room (Nat.le_of_ble_eq_true rfl)) d_Mdl_moveBlock_68 (fun H locs hP hS => ?_)
  refine kv_v (rest := [.ref (a 0)]) X hP hS (c_Mdl_cut l D cB cI a bz ha S10 ((S10.1 1) + x1) (f_Mdl_is S10 (16 : Int32))) (kw_Mdl_cut hts q_639 ⟨Nat.le_of_ble_eq_true rfl, Nat.le_of_ble_eq_true rfl⟩) 0 rfl rfl rfl hl.1 rfl (lv_room (Nat.le_of_ble_eq_true rfl)) d_Mdl_moveBlock_71 (fun H locs hP hS => ?_)
  refine pt_Mdl X hP hS 2 (by decide) (v := (f_Mdl_cut ((S10.1 1) + x1) (f_Mdl_is S10 (16 : Int32)))) (S1 := (pr S10 1 ((f_Mdl_cut ((S10.1 1) + x1) (f_Mdl_is S10 (16 : Int32)))))) q_565 rfl rfl rfl rfl d_Mdl_moveBlock_74 (fun H locs hP hS => ?_)
  refine lv_aload_n hx hb d_Mdl_moveBlock_77 rfl (lv_at hl 4 rfl) ?_
  refine lv_aload_n hx hb d_Mdl_moveBlock_78 rfl (lv_at hl 4 rfl) ?_
  refine lv_aload_n hx hb d_Mdl_moveBlock_79 rfl (lv_at hl 4 rfl) ?_
  refine gt_Mdl X hP 3 (by decide) (v := .int (S10.1 2)) q_566 rfl d_Mdl_moveBlock_80 ?_
  refine lv_iload_n hx hb d_Mdl_moveBlock_83 rfl (lv_at hl 5 rfl) ?_
  refine lv_iadd hx hb d_Mdl_moveBlock_84 ?_
  refine lv_aload_n hx hb d_Mdl_moveBlock_85 rfl (lv_at hl 4 rfl) ?_
  refine lv_bipush (v := (16 : Int32)) hx hb d_Mdl_moveBlock_86 (by decide) ?_
  refine kv_v (rest := [.int (((S10.1 2) + x1)), .ref (a 0), .ref (a 0)]) X hP hS (c_Mdl_is l D cB cI a bz ha (pr S10 1 ((f_Mdl_cut ((S10.1 1) + x1) (f_Mdl_is S10 (16 : Int32))))) (16 : Int32)) (kw_Mdl_is hts q_635 ⟨Nat.le_of_ble_eq_true rfl, Nat.le_of_ble_eq_true rfl⟩) 0 rfl rfl rfl hl.1 rfl (lv_room (Nat.le_of_ble_eq_true rfl)) d_Mdl_moveBlock_88 (fun H locs hP hS => ?_)
  refine kv_v (rest := [.ref (a 0)]) X hP hS (c_Mdl_cut l D cB cI a bz ha (pr S10 1 ((f_Mdl_cut ((S10.1 1) + x1) (f_Mdl_is S10 (16 : Int32))))) ((S10.1 2) + x1) (f_Mdl_is (pr S10 1 ((f_Mdl_cut ((S10.1 1) + x1) (f_Mdl_is S10 (16 : Int32))))) (16 : Int32))) (kw_Mdl_cut hts q_639 ⟨Nat.le_of_ble_eq_true rfl, Nat.le_of_ble_eq_true rfl⟩) 0 rfl rfl rfl hl.1 rfl (lv_room (Nat.le_of_ble_eq_true rfl)) d_Mdl_moveBlock_91 (fun H locs hP hS => ?_)
  refine pt_Mdl X hP hS 3 (by decide) (v := (f_Mdl_cut ((S10.1 2) + x1) (f_Mdl_is (pr S10 1 ((f_Mdl_cut ((S10.1 1) + x1) (f_Mdl_is S10 (16 : Int32))))) (16 : Int32)))) (S1 := (pr (pr S10 1 ((f_Mdl_cut ((S10.1 1) + x1) (f_Mdl_is S10 (16 : Int32))))) 2 ((f_Mdl_cut ((S10.1 2) + x1) (f_Mdl_is (pr S10 1 ((f_Mdl_cut ((S10.1 1) + x1) (f_Mdl_is S10 (16 : Int32))))) (16 : Int32)))))) q_566 rfl rfl rfl rfl d_Mdl_moveBlock_94 (fun H locs hP hS => ?_)
  refine lv_aload_n hx hb d_Mdl_moveBlock_97 rfl (lv_at hl 4 rfl) ?_
  refine lv_aload_n hx hb d_Mdl_moveBlock_98 rfl (lv_at hl 4 rfl) ?_
  refine gt_Mdl X hP 1 (by decide) (v := .int (S10.1 0)) q_564 rfl d_Mdl_moveBlock_99 ?_
  refine lv_if_eq (tgt := 109) hx hb d_Mdl_moveBlock_102 rfl (fun h12 => ?_) (fun h12 => ?_)
  ·
    refine lv_aload_n hx hb d_Mdl_moveBlock_109 rfl (lv_at hl 4 rfl) ?_
    refine gt_Mdl X hP 9 (by decide) (v := .int (S10.1 8)) q_572 rfl d_Mdl_moveBlock_110 ?_
    refine pt_Mdl X hP hS 9 (by decide) (v := S10.1 8) (S1 := (pr (pr (pr S10 1 ((f_Mdl_cut ((S10.1 1) + x1) (f_Mdl_is S10 (16 : Int32))))) 2 ((f_Mdl_cut ((S10.1 2) + x1) (f_Mdl_is (pr S10 1 ((f_Mdl_cut ((S10.1 1) + x1) (f_Mdl_is S10 (16 : Int32))))) (16 : Int32))))) 8 (S10.1 8))) q_572 rfl rfl rfl rfl d_Mdl_moveBlock_113 (fun H locs hP hS => ?_)
    refine lv_aload_n hx hb d_Mdl_moveBlock_116 rfl (lv_at hl 4 rfl) ?_
    refine lv_aload_n hx hb d_Mdl_moveBlock_117 rfl (lv_at hl 4 rfl) ?_
    refine gt_Mdl X hP 1 (by decide) (v := .int (S10.1 0)) q_564 rfl d_Mdl_moveBlock_118 ?_
    refine lv_iconst (v := (1 : Int32)) hx hb d_Mdl_moveBlock_121 (by decide) ?_
    refine lv_isub hx hb d_Mdl_moveBlock_122 ?_
    refine lv_ldc (v := (65535 : Int32)) hx hb hown (hts _ q_630) d_Mdl_moveBlock_123 ?_
    refine lv_iand hx hb d_Mdl_moveBlock_125 ?_
    refine pt_Mdl X hP hS 1 (by decide) (v := (((S10.1 0) - (1 : Int32)) &&& (65535 : Int32))) (S1 := (pr (pr (pr (pr S10 1 ((f_Mdl_cut ((S10.1 1) + x1) (f_Mdl_is S10 (16 : Int32))))) 2 ((f_Mdl_cut ((S10.1 2) + x1) (f_Mdl_is (pr S10 1 ((f_Mdl_cut ((S10.1 1) + x1) (f_Mdl_is S10 (16 : Int32))))) (16 : Int32))))) 8 (S10.1 8)) 0 ((((S10.1 0) - (1 : Int32)) &&& (65535 : Int32))))) q_564 rfl rfl rfl rfl d_Mdl_moveBlock_126 (fun H locs hP hS => ?_)
    exact rt_s X hr hk hP hS (by rw [f_Mdl_moveBlock, bn_eq e3, bn_eq e6, bn_eq e9, bs_eq e11, if_pos h12]) d_Mdl_moveBlock_129
  ·
    refine lv_iload_n hx hb d_Mdl_moveBlock_105 rfl (lv_at hl 3 rfl) ?_
    refine lv_goto (tgt := 113) hx hb d_Mdl_moveBlock_106 rfl ?_
    refine pt_Mdl X hP hS 9 (by decide) (v := (((S.1 8) - (1 : Int32)) &&& (65535 : Int32))) (S1 := (pr (pr (pr S10 1 ((f_Mdl_cut ((S10.1 1) + x1) (f_Mdl_is S10 (16 : Int32))))) 2 ((f_Mdl_cut ((S10.1 2) + x1) (f_Mdl_is (pr S10 1 ((f_Mdl_cut ((S10.1 1) + x1) (f_Mdl_is S10 (16 : Int32))))) (16 : Int32))))) 8 ((((S.1 8) - (1 : Int32)) &&& (65535 : Int32))))) q_572 rfl rfl rfl rfl d_Mdl_moveBlock_113 (fun H locs hP hS => ?_)
    refine lv_aload_n hx hb d_Mdl_moveBlock_116 rfl (lv_at hl 4 rfl) ?_
    refine lv_aload_n hx hb d_Mdl_moveBlock_117 rfl (lv_at hl 4 rfl) ?_
    refine gt_Mdl X hP 1 (by decide) (v := .int (S10.1 0)) q_564 rfl d_Mdl_moveBlock_118 ?_
    refine lv_iconst (v := (1 : Int32)) hx hb d_Mdl_moveBlock_121 (by decide) ?_
    refine lv_isub hx hb d_Mdl_moveBlock_122 ?_
    refine lv_ldc (v := (65535 : Int32)) hx hb hown (hts _ q_630) d_Mdl_moveBlock_123 ?_
    refine lv_iand hx hb d_Mdl_moveBlock_125 ?_
    refine pt_Mdl X hP hS 1 (by decide) (v := (((S10.1 0) - (1 : Int32)) &&& (65535 : Int32))) (S1 := (pr (pr (pr (pr S10 1 ((f_Mdl_cut ((S10.1 1) + x1) (f_Mdl_is S10 (16 : Int32))))) 2 ((f_Mdl_cut ((S10.1 2) + x1) (f_Mdl_is (pr S10 1 ((f_Mdl_cut ((S10.1 1) + x1) (f_Mdl_is S10 (16 : Int32))))) (16 : Int32))))) 8 ((((S.1 8) - (1 : Int32)) &&& (65535 : Int32)))) 0 ((((S10.1 0) - (1 : Int32)) &&& (65535 : Int32))))) q_564 rfl rfl rfl rfl d_Mdl_moveBlock_126 (fun H locs hP hS => ?_)
    exact rt_s X hr hk hP hS (by rw [f_Mdl_moveBlock, bn_eq e3, bn_eq e6, bn_eq e9, bs_eq e11, if_neg h12]) d_Mdl_moveBlock_129
