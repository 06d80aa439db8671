abbrev rm_Wc_run : Room := { frames := 7, cells := 0, slots := 0, locals := 147 }
set_option maxHeartbeats 4000000 in
set_option maxRecDepth 100000 in
theorem lp_Wc_run {p : Program} {l : Launch} {e : Env} {s : State} {m : MethodId} {av : Array Value} {below : List Frame} {meth : Method} {c : Code} {D : va_G} {cB cI : ClassId} {a : Nat → Nat} {bz : Nat} (ha : ap a 8) {x1 : Int32} {F : Int32 × Sc} (X : CX p m c b_Wc_run 3 s av R_Wc D cB cI (wdC cB cI a) (ow a 8) bz) (hr : meth.sig.returnType = some .int) (hk : meth.locks = false) (hn : x1 ≤ (60 : Int32)) : ∀ (f k : Nat), k + f = 61 → ∀ (S : Sc) (H : Heap) (locs : List Loc) (ls : Array Slot), va_P D classes (wdC cB cI a S) H → va_S (ow a 8) s.heap H locs → lv_has ls 3 [(2, .int (nI k)), (0, .ref (a 0)), (1, .int x1)] → cR x1 f (nI k) S = F → W p l e rm_Wc_run s m av below meth c H locs 0 0 (MQ below (QI D (wdC cB cI a) (ow a 8) F) av s 0 0 (ow a 8)) (F0 m 14 ls []) := by
  have hx := X.1.1
  have hb := X.1.2.1
  have hts := X.1.2.2.2.2
  intro f
  induction f with
  | zero =>
    intro k hfk S H locs ls hP hS hl hF
    refine lv_iload_n hx hb d_Wc_run_14 rfl (lv_at hl 0 rfl) ?_
    refine lv_iload_n hx hb d_Wc_run_15 rfl (lv_at hl 2 rfl) ?_
    refine lv_icmp_ge (tgt := 42) hx hb d_Wc_run_16 rfl (fun h => ?_) (fun h => absurd (le61 hn hfk) h)
    refine lv_iload_n hx hb d_Wc_run_42 rfl (lv_at hl 0 rfl) ?_
    exact rt_vs X hr hk hP hS hF.symm d_Wc_run_43
  | succ f ih =>
    intro k hfk S H locs ls hP hS hl hF
    rw [cR_s] at hF
    refine lv_iload_n hx hb d_Wc_run_14 rfl (lv_at hl 0 rfl) ?_
    refine lv_iload_n hx hb d_Wc_run_15 rfl (lv_at hl 2 rfl) ?_
    refine lv_icmp_ge (tgt := 42) hx hb d_Wc_run_16 rfl (fun h => ?_) (fun h => ?_)
    · refine lv_iload_n hx hb d_Wc_run_42 rfl (lv_at hl 0 rfl) ?_
      exact rt_vs X hr hk hP hS (by rw [← hF, if_pos h]) d_Wc_run_43
    · rw [if_neg h] at hF
      refine lv_aload_n hx hb d_Wc_run_19 rfl (lv_at hl 1 rfl) ?_
      refine gt_Wc X hP 2 (by decide) (v := .ref (a 3)) q_225 rfl d_Wc_run_20 ?_
      refine gt_Prc X hP 6 (by decide) (v := .int (S.1 12)) q_203 rfl d_Wc_run_23 ?_
      refine lv_if_ne (tgt := 42) hx hb d_Wc_run_26 rfl (fun z => ?_) (fun z => ?_)
      · refine lv_iload_n hx hb d_Wc_run_42 rfl (lv_at hl 0 rfl) ?_
        exact rt_vs X hr hk hP hS (by rw [← hF, if_neg z]) d_Wc_run_43
      rw [if_pos z] at hF
      refine lv_aload_n hx hb d_Wc_run_29 rfl (lv_at hl 1 rfl) ?_
      refine gt_Wc X hP 2 (by decide) (v := .ref (a 3)) q_225 rfl d_Wc_run_30 ?_
      refine kv_s (rest := []) X hP hS (c_Prc_makeStep l D cB cI a bz ha S) (kw_Prc_makeStep hts q_275 ⟨Nat.le_of_ble_eq_true rfl, Nat.le_of_ble_eq_true rfl⟩) 3 rfl rfl rfl hl.1 rfl (lv_room (Nat.le_of_ble_eq_true rfl)) d_Wc_run_33 (fun S1 H locs e1 hP hS => ?_)
      rw [e1] at hF
      refine lv_iinc (k := 0) (v := nI (k + 1)) hx hb d_Wc_run_36 hl rfl (nI_1 k) (Nat.le_of_ble_eq_true rfl) rfl (fun ls hl => ?_)
      have hl : lv_has ls 3 [(2, .int (nI (k + 1))), (0, .ref (a 0)), (1, .int x1)] := hl
      refine lv_goto (tgt := 14) hx hb d_Wc_run_39 rfl ?_
      exact ih (k + 1) (by omega) S1 H locs ls hP hS hl (by rw [← nI_1]; exact hF)
set_option maxHeartbeats 4000000 in
set_option maxRecDepth 100000 in
theorem c_Wc_run (l : Launch) (D : va_G) (cB cI : ClassId) (a : Nat → Nat) (bz : Nat) (ha : ap a 8) (S : Sc) (x1 : Int32) : MI l y_Wc_run b_Wc_run 3 (some .int) rm_Wc_run [.ref (a 0), .int x1] D cB cI (wdC cB cI a) (ow a 8) bz S (f_Wc_run S x1) := by
  refine met_in R_Wc (by decide) rfl (Nat.le_of_ble_eq_true rfl) (wdC_D ha cB cI) ?_
  intro p e s m below meth c ls X hr hk hl hP hS
  have hx := X.1.1
  have hb := X.1.2.1
  have hts := X.1.2.2.2.2
  have hl : lv_has ls 3 [(0, .ref (a 0)), (1, .int x1)] := hl
  refine lv_iload_n hx hb d_Wc_run_0 rfl (lv_at hl 1 rfl) ?_
  refine lv_if_lt (tgt := 10) hx hb d_Wc_run_1 rfl (fun h1 => ?_) (fun h1 => ?_)
  · refine lv_iconst (v := (-1 : Int32)) hx hb d_Wc_run_10 (by decide) ?_
    exact rt_vs X hr hk hP hS (by rw [f_Wc_run, if_pos h1]) d_Wc_run_11
  refine lv_iload_n hx hb d_Wc_run_4 rfl (lv_at hl 1 rfl) ?_
  refine lv_bipush (v := (60 : Int32)) hx hb d_Wc_run_5 (by decide) ?_
  refine lv_icmp_le (tgt := 12) hx hb d_Wc_run_7 rfl (fun h2 => ?_) (fun h2 => ?_)
  · refine lv_iconst (v := nI 0) hx hb d_Wc_run_12 (by decide) ?_
    refine lv_istore_n hx hb d_Wc_run_13 rfl hl (Nat.le_of_ble_eq_true rfl) rfl (fun ls hl => ?_)
    exact lp_Wc_run ha X hr hk h2 61 0 rfl S s.heap [] ls hP hS hl (by rw [f_Wc_run, if_neg h1, if_pos h2])
  · refine lv_iconst (v := (-1 : Int32)) hx hb d_Wc_run_10 (by decide) ?_
    exact rt_vs X hr hk hP hS (by rw [f_Wc_run, if_neg h1, if_neg h2]) d_Wc_run_11
theorem kw_Wc_run {R : Room} {s : State} {args : Array Value} {own : String} {index : Nat} (hts : ∀ x ∈ WS, x.before args s = true) (hl : Cond.methodLink own index y_Wc_run ∈ WS) (hR : rm_Wc_run.frames + 1 ≤ R.frames ∧ 8 + (3 + 11) + rm_Wc_run.locals ≤ R.locals) : CallW R s args own R_Wc index y_Wc_run b_Wc_run 3 (some .int) (Cond.code y_Wc_run b_Wc_run 3 (some .int) :: WS) rm_Wc_run 0 0 1 := kwV 1 hts hl q_272 q_273 q_67 q_274 rfl rfl ⟨rfl, by decide +kernel, by decide +kernel, by decide +kernel⟩ hR
