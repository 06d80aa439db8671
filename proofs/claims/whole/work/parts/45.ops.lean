def KO (A B : Int32 × Sc) : Prop := A.1 = 1 ∧ B.1 = 1 ∧ RR A.2 B.2
theorem s_pushW2 {S T : Sc} {v v2 : Int32} (h : RR S T) (e : v = v2) : RR (f_Stk_pushWord S v) (f_Mdl_pushWord T v2) := by subst e; exact s_pushW h
theorem bs_id (x : Sc) : bs x (fun S => S) = x := rfl
theorem pv1 (S : Sc) (v : Int32) : f_Stk_pushValue S v 1 = f_Stk_pushWord S v := by
  unfold f_Stk_pushValue f_Stk_pushWord
  rw [if_neg (by decide : ¬ (1 : Int32) = 0)]
theorem pv0 (S : Sc) (v : Int32) : f_Stk_pushValue S v 0 = f_Stk_pushByte S v := by
  unfold f_Stk_pushValue
  rw [if_pos (rfl : (0 : Int32) = 0), bs_id]
theorem po1 (T : Sc) (v : Int32) : f_Mdl_pushOf T v 1 = f_Mdl_push T v := by
  unfold f_Mdl_pushOf
  rw [if_neg (by decide : ¬ (1 : Int32) = 0), bs_id]
theorem po0 (T : Sc) (v : Int32) : f_Mdl_pushOf T v 0 = f_Mdl_pushWord T v := by
  unfold f_Mdl_pushOf
  rw [if_pos (rfl : (0 : Int32) = 0), bs_id]
theorem s_pushV {S T : Sc} {v v2 w n : Int32} (h : RR S T) (hw : WN w n) (e : n = 0 → v = v2) (e2 : v &&& 255 = v2 &&& 255) : RR (f_Stk_pushValue S v w) (f_Mdl_pushOf T v2 n) := by
  rcases hw with ⟨rfl, rfl⟩ | ⟨rfl, rfl⟩
  · rw [pv1, po0]; exact s_pushW2 h (e rfl)
  · rw [pv0, po1]; exact s_push h e2
theorem bn_id (x : Int32 × Sc) : bn x (fun r S => (r, S)) = x := rfl
theorem pw1 (S : Sc) : f_Stk_pullValue S 1 = f_Stk_pullWord S := by
  unfold f_Stk_pullValue
  rw [if_neg (by decide : ¬ (1 : Int32) = 0), bn_id]
theorem pw0 (S : Sc) : f_Stk_pullValue S 0 = f_Stk_pullByte S := by
  unfold f_Stk_pullValue
  rw [if_pos (rfl : (0 : Int32) = 0), bn_id]
theorem pf1 (T : Sc) : f_Mdl_pullOf T 1 = f_Mdl_result (f_Mdl_pull T).2 (f_Mdl_pull T).1 1 := rfl
theorem pf0 (T : Sc) : f_Mdl_pullOf T 0 = f_Mdl_result (f_Mdl_pullWord T).2 (f_Mdl_pullWord T).1 0 := rfl
theorem cpw_8 (S : Sc) : (f_Stk_pullWord S).2.1 8 = S.1 8 := rfl
theorem cpb_8 (S : Sc) : (f_Stk_pullByte S).2.1 8 = S.1 8 := rfl
theorem s_pv {S T : Sc} {w n : Int32} (h : RR S T) (hw : WN w n) : ∃ (r : Int32) (T2 : Sc), f_Mdl_pullOf T n = f_Mdl_result T2 r n ∧ (f_Stk_pullValue S w).1 = r ∧ RR (f_Stk_pullValue S w).2 T2 ∧ (f_Stk_pullValue S w).2.1 8 = S.1 8 := by
  rcases hw with ⟨rfl, rfl⟩ | ⟨rfl, rfl⟩
  · rw [pw1]; exact ⟨_, _, pf0 T, (s_pullW h).1, (s_pullW h).2.2, cpw_8 S⟩
  · rw [pw0]; exact ⟨_, _, pf1 T, (s_pull h).1, (s_pull h).2.2, cpb_8 S⟩
theorem mask_r16 {S : Sc} (x : Int32) : r16 (x &&& f_Reg_indexMask S) := by
  show r16 (x &&& f_Reg_maskOf (f_Reg_wideIndex S))
  unfold f_Reg_maskOf
  split
  · exact r8_16 (m8 x)
  · exact m16 x
theorem s_setP {S T : Sc} {v v2 : Int32} (h : RR S T) (e : v = v2 &&& 255) : RR (f_Reg_replaceP S v) (f_Mdl_setFlags T v2) := by
  subst e
  have h1 : RR (pr S 8 (v2 &&& 255)) (pr T 6 (v2 &&& 255)) := R_8 h rfl (m8 v2)
  have hw := WN_I h1
  unfold f_Mdl_setFlags
  show RR (pr (pr (pr S 8 (v2 &&& 255)) 1 (S.1 1 &&& f_Reg_maskOf (f_Reg_wideIndex (pr S 8 (v2 &&& 255))))) 2 (S.1 2 &&& f_Reg_maskOf (f_Reg_wideIndex (pr S 8 (v2 &&& 255))))) _
  generalize f_Reg_wideIndex (pr S 8 (v2 &&& 255)) = w at hw ⊢
  generalize f_Mdl_is (pr T 6 (v2 &&& 255)) 16 = n at hw ⊢
  have g1 := RRr_1 h
  have g2 := RRr_2 h
  have e1 := RRe_1 h
  have e2 := RRe_2 h
  rcases hw with ⟨rfl, rfl⟩ | ⟨rfl, rfl⟩
  · rw [if_pos (rfl : (0 : Int32) = 0)]
    show RR (pr (pr (pr S 8 (v2 &&& 255)) 1 (S.1 1 &&& 65535)) 2 (S.1 2 &&& 65535)) _
    obtain ⟨⟨a0, a1, a2, a3, a4, a5, a6, a7, a8, a9, a10, a11, a12, a13⟩, ⟨b0, b1, b2, b3⟩, hm, hl⟩ := h1
    exact ⟨⟨a0, g1.trans e1, g2.trans e2, a3, a4, a5, a6, a7, a8, a9, a10, a11, a12, a13⟩, ⟨b0, m16 _, m16 _, b3⟩, hm, hl⟩
  · rw [if_neg (by decide : ¬ (1 : Int32) = 0)]
    exact R_2 (R_1 h1 (by show S.1 1 &&& 255 = T.1 1 &&& 255; rw [e1]) (r8_16 (m8 _))) (by show S.1 2 &&& 255 = T.1 2 &&& 255; rw [e2]) (r8_16 (m8 _))
theorem s_jump {S T : Sc} {v v2 : Int32} (h : RR S T) (e : v &&& 65535 = v2) : RR (f_Reg_jumpTo S v) (pr T 8 v2) := R_7 h e (m16 v)
theorem R_78 {S T : Sc} {v v2 x x2 : Int32} (h : RR S T) (e : v = v2) (g : r8 v) (e2 : x = x2) (g2 : r16 x) : RR (pr (pr S 6 v) 7 x) (pr (pr T 7 v2) 8 x2) := R_7 (R_6 h e g) e2 g2
theorem R_87 {S T : Sc} {v v2 x x2 : Int32} (h : RR S T) (e : v = v2) (g : r8 v) (e2 : x = x2) (g2 : r16 x) : RR (pr (pr S 6 v) 7 x) (pr (pr T 8 x2) 7 v2) := R_6 (R_7 h e2 g2) e g
theorem ei_eq (S : Sc) (x1 : Int32) : f_Prc_enterInterrupt S x1 = pr (f_Bus_readWord (pr (f_Reg_putFlag (f_Reg_putFlag (f_Stk_pushByte (f_Stk_pushWord (f_Stk_pushByte S (S.1 6)) ((f_Stk_pushByte S (S.1 6)).1 7)) ((f_Stk_pushWord (f_Stk_pushByte S (S.1 6)) ((f_Stk_pushByte S (S.1 6)).1 7)).1 8)) (4 : Int32) (1 : Int32)) (8 : Int32) (0 : Int32)) 6 ((0 : Int32))) (f_Bus_bank0Place x1)).2 7 ((f_Bus_readWord (pr (f_Reg_putFlag (f_Reg_putFlag (f_Stk_pushByte (f_Stk_pushWord (f_Stk_pushByte S (S.1 6)) ((f_Stk_pushByte S (S.1 6)).1 7)) ((f_Stk_pushWord (f_Stk_pushByte S (S.1 6)) ((f_Stk_pushByte S (S.1 6)).1 7)).1 8)) (4 : Int32) (1 : Int32)) (8 : Int32) (0 : Int32)) 6 ((0 : Int32))) (f_Bus_bank0Place x1)).1) := rfl
theorem if_eq (T : Sc) (x1 : Int32) : f_Mdl_interruptFrom T x1 = pr (f_Mdl_readWord (pr (f_Mdl_flag (f_Mdl_flag (f_Mdl_push (f_Mdl_pushWord (f_Mdl_push T (T.1 7)) ((f_Mdl_push T (T.1 7)).1 8)) ((f_Mdl_pushWord (f_Mdl_push T (T.1 7)) ((f_Mdl_push T (T.1 7)).1 8)).1 6)) (4 : Int32) (1 : Int32)) (8 : Int32) (0 : Int32)) 7 ((0 : Int32))) x1 (1 : Int32)).2 8 ((f_Mdl_readWord (pr (f_Mdl_flag (f_Mdl_flag (f_Mdl_push (f_Mdl_pushWord (f_Mdl_push T (T.1 7)) ((f_Mdl_push T (T.1 7)).1 8)) ((f_Mdl_pushWord (f_Mdl_push T (T.1 7)) ((f_Mdl_push T (T.1 7)).1 8)).1 6)) (4 : Int32) (1 : Int32)) (8 : Int32) (0 : Int32)) 7 ((0 : Int32))) x1 (1 : Int32)).1) := rfl
theorem s_int {S T : Sc} {v : Int32} (h : RR S T) (g : r16 v) : RR (f_Prc_enterInterrupt S v) (f_Mdl_interruptFrom T v) := by
  have h1 := s_push (b := S.1 6) (b2 := T.1 7) h (by rw [RRe_6 h])
  have h2 := s_pushW2 h1 (RRe_7 h1)
  have h3 := s_push (b := (f_Stk_pushWord (f_Stk_pushByte S (S.1 6)) ((f_Stk_pushByte S (S.1 6)).1 7)).1 8) (b2 := (f_Mdl_pushWord (f_Mdl_push T (T.1 7)) ((f_Mdl_push T (T.1 7)).1 8)).1 6) h2 (by rw [RRe_8 h2])
  have h4 := s_flag h3 4 1 (by decide)
  have h5 := s_flag h4 8 0 (by decide)
  have h6 := R_6 (v := 0) (v2 := 0) h5 rfl (by decide)
  obtain ⟨a1, a2, a3⟩ := s_rw h6 (PR_near g)
  rw [ei_eq, if_eq]
  exact R_7 a3 a1 a2
theorem sx_k : ∀ k, k < 256 → (nI k ≤ 127 → (nI k).toInt8.toInt32 = nI k) ∧ (¬ nI k ≤ 127 → (nI k).toInt8.toInt32 = nI k - 256) := by decide +kernel
theorem br_eq (T : Sc) (x1 : Int32) : f_Mdl_branch T x1 = if (f_Mdl_next T).1 ≤ (127 : Int32) then (if x1 = (0 : Int32) then ((pr (f_Mdl_next T).2 8 ((f_Mdl_next T).2.1 8))) else ((pr (f_Mdl_next T).2 8 (((((f_Mdl_next T).2.1 8) + (f_Mdl_next T).1) &&& (65535 : Int32)))))) else (if x1 = (0 : Int32) then ((pr (f_Mdl_next T).2 8 ((f_Mdl_next T).2.1 8))) else ((pr (f_Mdl_next T).2 8 (((((f_Mdl_next T).2.1 8) + ((f_Mdl_next T).1 - (256 : Int32))) &&& (65535 : Int32)))))) := rfl
theorem s_br {S T : Sc} {x : Int32} (h : RR S T) : (¬ x = 0 → RR (f_Reg_jumpTo (f_Opd_nextByte S).2 ((f_Opd_nextByte S).2.1 7 + (f_Opd_nextByte S).1.toInt8.toInt32)) (f_Mdl_branch T x)) ∧ (x = 0 → RR (f_Opd_nextByte S).2 (f_Mdl_branch T x)) := by
  obtain ⟨a1, a2, a3⟩ := s_next h
  obtain ⟨k, hk, ek⟩ := r8_nI a2
  have sx := sx_k k hk
  have e7 := RRe_7 a3
  have g7 := RRr_7 a3
  rw [br_eq, ← a1]
  constructor
  · intro z
    by_cases q : (f_Opd_nextByte S).1 ≤ (127 : Int32)
    · rw [if_pos q, if_neg z]
      refine s_jump a3 ?_
      rw [ek] at q ⊢
      rw [sx.1 q, e7]
    · rw [if_neg q, if_neg z]
      refine s_jump a3 ?_
      rw [ek] at q ⊢
      rw [sx.2 q, e7]
  · intro z
    have hp : RR (f_Opd_nextByte S).2 (pr (f_Mdl_next T).2 8 ((f_Mdl_next T).2.1 8)) := by
      obtain ⟨e, g, hm, hl⟩ := a3
      exact ⟨e, g, hm, hl⟩
    by_cases q : (f_Opd_nextByte S).1 ≤ (127 : Int32)
    · rw [if_pos q, if_pos z]; exact hp
    · rw [if_neg q, if_pos z]; exact hp
theorem xba {c : Int32} (h : r16 c) : r16 ((c >>> ((8 : Int32) &&& 31)) ||| ((c &&& 255) <<< ((8 : Int32) &&& 31))) := bt_r16 fun i hi z => by
  rw [b_or, b_sshr8 c hi, b_shl8 _ hi, b_and, b_255, decide_eq_false (by omega : ¬ i - 8 < 8), Bool.and_false, Bool.and_false, Bool.or_false]
  split
  · exact r16_bt h (by omega)
  · exact r16_bt h (by omega)
theorem has_n {S T : Sc} (h : RR S T) (f : Int32) : f_Reg_has (f_Opd_nextByte S).2 f = f_Mdl_is T f := has_is (S := S) h f
def mvA (S : Sc) : Sc := f_Bus_writeByte (f_Bus_readByte (pr (f_Opd_nextByte (f_Opd_nextByte S).2).2 5 ((f_Opd_nextByte S).1)) (((f_Opd_nextByte (f_Opd_nextByte S).2).1 <<< ((16 : Int32) &&& 31)) ||| ((f_Opd_nextByte (f_Opd_nextByte S).2).2.1 1))).2 (((f_Opd_nextByte S).1 <<< ((16 : Int32) &&& 31)) ||| ((f_Opd_nextByte (f_Opd_nextByte S).2).2.1 2)) (f_Bus_readByte (pr (f_Opd_nextByte (f_Opd_nextByte S).2).2 5 ((f_Opd_nextByte S).1)) (((f_Opd_nextByte (f_Opd_nextByte S).2).1 <<< ((16 : Int32) &&& 31)) ||| ((f_Opd_nextByte (f_Opd_nextByte S).2).2.1 1))).1
def mvB (T : Sc) : Sc := f_Mdl_write (f_Mdl_read (pr (f_Mdl_next (f_Mdl_next T).2).2 5 ((f_Mdl_next T).1)) (((f_Mdl_next (f_Mdl_next T).2).1 <<< ((16 : Int32) &&& 31)) ||| ((f_Mdl_next (f_Mdl_next T).2).2.1 1))).2 (((f_Mdl_next T).1 <<< ((16 : Int32) &&& 31)) ||| ((f_Mdl_read (pr (f_Mdl_next (f_Mdl_next T).2).2 5 ((f_Mdl_next T).1)) (((f_Mdl_next (f_Mdl_next T).2).1 <<< ((16 : Int32) &&& 31)) ||| ((f_Mdl_next (f_Mdl_next T).2).2.1 1))).2.1 2)) (f_Mdl_read (pr (f_Mdl_next (f_Mdl_next T).2).2 5 ((f_Mdl_next T).1)) (((f_Mdl_next (f_Mdl_next T).2).1 <<< ((16 : Int32) &&& 31)) ||| ((f_Mdl_next (f_Mdl_next T).2).2.1 1))).1
theorem mrd_2 (T : Sc) (q v : Int32) : (f_Mdl_read (pr T 5 v) q).2.1 2 = T.1 2 := rfl
theorem mv_AB {S T : Sc} (h : RR S T) : RR (mvA S) (mvB T) := by
  obtain ⟨a1, a2, a3⟩ := s_next h
  obtain ⟨b1, b2, b3⟩ := s_next a3
  have c3 := R_5 b3 a1 a2
  have hx := RRe_1 b3
  have hy := RRe_2 b3
  obtain ⟨d1, d2, d3⟩ := s_read (c := ((f_Opd_nextByte (f_Opd_nextByte S).2).1 <<< ((16 : Int32) &&& 31)) ||| (f_Opd_nextByte (f_Opd_nextByte S).2).2.1 1) (q := ((f_Mdl_next (f_Mdl_next T).2).1 <<< ((16 : Int32) &&& 31)) ||| (f_Mdl_next (f_Mdl_next T).2).2.1 1) c3 (by rw [b1, hx]; exact c_cell _)
  unfold mvA mvB
  rw [mrd_2]
  refine s_write d3 ?_ (by rw [d1])
  rw [a1, hy]
  exact c_cell _
theorem jt_0 (S : Sc) (x : Int32) : (f_Reg_jumpTo S x).1 0 = S.1 0 := rfl
theorem pr2_0 (S : Sc) (x : Int32) : (pr S 2 x).1 0 = S.1 0 := rfl
theorem pr1_0 (S : Sc) (x : Int32) : (pr S 1 x).1 0 = S.1 0 := rfl
theorem mv_eq (T : Sc) (x : Int32) : f_Mdl_moveBlock T x = if (mvB T).1 0 = (0 : Int32) then (pr (pr (pr (pr (mvB T) 1 (f_Mdl_cut ((mvB T).1 1 + x) (f_Mdl_is (mvB T) 16))) 2 (f_Mdl_cut ((mvB T).1 2 + x) (f_Mdl_is (pr (mvB T) 1 (f_Mdl_cut ((mvB T).1 1 + x) (f_Mdl_is (mvB T) 16))) 16))) 8 ((mvB T).1 8)) 0 (((mvB T).1 0 - (1 : Int32)) &&& (65535 : Int32))) else (pr (pr (pr (pr (mvB T) 1 (f_Mdl_cut ((mvB T).1 1 + x) (f_Mdl_is (mvB T) 16))) 2 (f_Mdl_cut ((mvB T).1 2 + x) (f_Mdl_is (pr (mvB T) 1 (f_Mdl_cut ((mvB T).1 1 + x) (f_Mdl_is (mvB T) 16))) 16))) 8 ((T.1 8 - (1 : Int32)) &&& (65535 : Int32))) 0 (((mvB T).1 0 - (1 : Int32)) &&& (65535 : Int32))) := rfl
theorem mvA_eq : True := trivial
theorem s_mv {S T : Sc} {x : Int32} (h : RR S T) : RR (if (mvA S).1 0 = (0 : Int32) then (pr (pr (pr (mvA S) 1 (((mvA S).1 1 + x) &&& f_Reg_indexMask (mvA S))) 2 (((mvA S).1 2 + x) &&& f_Reg_indexMask (pr (mvA S) 1 (((mvA S).1 1 + x) &&& f_Reg_indexMask (mvA S))))) 0 (((mvA S).1 0 - (1 : Int32)) &&& (65535 : Int32))) else (pr (f_Reg_jumpTo (pr (pr (mvA S) 1 (((mvA S).1 1 + x) &&& f_Reg_indexMask (mvA S))) 2 (((mvA S).1 2 + x) &&& f_Reg_indexMask (pr (mvA S) 1 (((mvA S).1 1 + x) &&& f_Reg_indexMask (mvA S))))) (S.1 7 - (1 : Int32))) 0 (((mvA S).1 0 - (1 : Int32)) &&& (65535 : Int32)))) (f_Mdl_moveBlock T x) := by
  have hAB := mv_AB h
  rw [mv_eq, RRe_0 hAB]
  have cut : ∀ (z z2 : Int32), z = z2 → z &&& f_Reg_indexMask (mvA S) = f_Mdl_cut z2 (f_Mdl_is (mvB T) 16) := by
    intro z z2 e
    subst e
    show z &&& f_Reg_maskOf (f_Reg_wideIndex (mvA S)) = _
    rcases WN_I hAB with ⟨p1, p2⟩ | ⟨p1, p2⟩
    · rw [p1, p2]; rfl
    · rw [p1, p2]; rfl
  have k1 := R_1 (v := ((mvA S).1 1 + x) &&& f_Reg_indexMask (mvA S)) hAB (cut _ _ (by rw [RRe_1 hAB])) (mask_r16 _)
  have k2 := R_2 (v := ((mvA S).1 2 + x) &&& f_Reg_indexMask (mvA S)) k1 (cut _ _ (by rw [RRe_2 hAB])) (mask_r16 _)
  have i1 : f_Reg_indexMask (pr (mvA S) 1 (((mvA S).1 1 + x) &&& f_Reg_indexMask (mvA S))) = f_Reg_indexMask (mvA S) := rfl
  have i2 : f_Mdl_is (pr (mvB T) 1 (f_Mdl_cut ((mvB T).1 1 + x) (f_Mdl_is (mvB T) 16))) 16 = f_Mdl_is (mvB T) 16 := rfl
  rw [i1, i2]
  by_cases z : (mvB T).1 0 = (0 : Int32)
  · rw [if_pos z, if_pos z]
    have k3 : RR (pr (pr (mvA S) 1 (((mvA S).1 1 + x) &&& f_Reg_indexMask (mvA S))) 2 (((mvA S).1 2 + x) &&& f_Reg_indexMask (mvA S))) (pr (pr (pr (mvB T) 1 (f_Mdl_cut ((mvB T).1 1 + x) (f_Mdl_is (mvB T) 16))) 2 (f_Mdl_cut ((mvB T).1 2 + x) (f_Mdl_is (mvB T) 16))) 8 ((mvB T).1 8)) := by
      obtain ⟨e, g, hm, hl⟩ := k2
      exact ⟨e, g, hm, hl⟩
    exact R_0 k3 rfl (m16 _)
  · rw [if_neg z, if_neg z]
    have k3 := s_jump (v := S.1 7 - (1 : Int32)) (v2 := (T.1 8 - (1 : Int32)) &&& 65535) k2 (by rw [RRe_7 h])
    exact R_0 k3 rfl (m16 _)
theorem fi0 (T : Sc) : f_Mdl_findIndex T 0 = f_Mdl_direct T 0 := by
  unfold f_Mdl_findIndex
  rw [if_pos (rfl : (0 : Int32) = 0), bs_id]
theorem fi1 (T : Sc) : f_Mdl_findIndex T 1 = f_Mdl_far (f_Mdl_nextWord T).2 ((T.1 5 <<< ((16 : Int32) &&& 31)) + (f_Mdl_nextWord T).1) := rfl
theorem mdi_6 (T : Sc) (x : Int32) : (f_Mdl_direct T x).1 6 = T.1 6 := rfl
theorem mnw_6 (T : Sc) : (f_Mdl_nextWord T).2.1 6 = T.1 6 := rfl
theorem far_6 (T : Sc) (x : Int32) : (f_Mdl_far T x).1 6 = T.1 6 := rfl
theorem sp_fi {S T : Sc} (h : RR S T) (m x : Int32) (hm : (m = 5 ∧ x = 0) ∨ (m = 13 ∧ x = 1)) : RR (f_Opd_place S m).2 (f_Mdl_findIndex T x) ∧ PR (f_Opd_place S m).1 ((f_Mdl_findIndex T x).1 14) ((f_Mdl_findIndex T x).1 15) ∧ (f_Opd_place S m).2.1 8 = S.1 8 ∧ (f_Mdl_findIndex T x).1 6 = T.1 6 := by
  rcases hm with ⟨rfl, rfl⟩ | ⟨rfl, rfl⟩
  · obtain ⟨d1, d2⟩ := s_dir (x := 0) h rfl
    rw [pl_5, fi0]
    exact ⟨d1, d2, cdi_8 S 0, mdi_6 T 0⟩
  · obtain ⟨a1, a2, a3⟩ := s_nw h
    have e5 := RRe_5 a3
    rw [mnw_5] at e5
    rw [pl_13, fi1, far_6, mnw_6]
    exact ⟨R_far a3, PR_bank0 e5 a1, cnw_8 S, rfl⟩
theorem sa_eq (T : Sc) (x v n : Int32) : f_Mdl_storeAt T x v n = f_Mdl_store (f_Mdl_findIndex T x) v n := rfl
theorem call_eq (T : Sc) (x : Int32) : f_Mdl_call T x = pr (f_Mdl_pushWord T ((T.1 8 - (1 : Int32)) &&& (65535 : Int32))) 8 (x &&& (65535 : Int32)) := rfl
theorem io_160 (T : Sc) : f_Mdl_indexOperand T 160 = f_Mdl_immediate T (f_Mdl_is T 16) := rfl
theorem io_162 (T : Sc) : f_Mdl_indexOperand T 162 = f_Mdl_immediate T (f_Mdl_is T 16) := rfl
theorem io_164 (T : Sc) : f_Mdl_indexOperand T 164 = f_Mdl_load (f_Mdl_findIndex T 0) (f_Mdl_is (f_Mdl_findIndex T 0) 16) := rfl
theorem io_166 (T : Sc) : f_Mdl_indexOperand T 166 = f_Mdl_load (f_Mdl_findIndex T 0) (f_Mdl_is (f_Mdl_findIndex T 0) 16) := rfl
theorem io_172 (T : Sc) : f_Mdl_indexOperand T 172 = f_Mdl_load (f_Mdl_findIndex T 1) (f_Mdl_is (f_Mdl_findIndex T 1) 16) := rfl
theorem io_174 (T : Sc) : f_Mdl_indexOperand T 174 = f_Mdl_load (f_Mdl_findIndex T 1) (f_Mdl_is (f_Mdl_findIndex T 1) 16) := rfl
theorem is_e {T T2 : Sc} (e : T2.1 6 = T.1 6) (f : Int32) : f_Mdl_is T2 f = f_Mdl_is T f := by
  unfold f_Mdl_is
  rw [e]
theorem s_add2 {S T : Sc} {v v2 : Int32} (h : RR S T) (e : v = v2) : RR (f_Prc_addToA S v) (f_Mdl_add T v2) := by subst e; exact s_add h
theorem msk_cut {w n : Int32} (hw : WN w n) (z : Int32) : (z ^^^ (-1 : Int32)) &&& f_Reg_maskOf w = f_Mdl_cut (z ^^^ (-1 : Int32)) n := by
  rcases hw with ⟨rfl, rfl⟩ | ⟨rfl, rfl⟩ <;> rfl
theorem is_01 {T : Sc} {f : Int32} (h : ¬ f_Mdl_is T f = 1) : f_Mdl_is T f = 0 := by
  unfold f_Mdl_is at h ⊢
  split
  · rfl
  · rename_i q; rw [if_neg q] at h; exact absurd rfl h
theorem a_rg (S : Sc) : f_Reg_a S &&& f_Reg_maskOf (f_Reg_wideA S) = f_Reg_a S := by
  show (S.1 0 &&& f_Reg_maskOf (f_Reg_wideA S)) &&& f_Reg_maskOf (f_Reg_wideA S) = _
  rw [Int32.and_assoc, Int32.and_self]; rfl
theorem wA_b {S S2 : Sc} (e : S2.1 8 &&& 32 = S.1 8 &&& 32) : f_Reg_wideA S2 = f_Reg_wideA S := by
  unfold f_Reg_wideA
  rw [e]
theorem s_setA3 {S T : Sc} {v w n E : Int32} (h : RR S T) (hw : WN (f_Reg_wideA S) n) (hw2 : WN w n) (ew : f_Reg_wideA S = w) (e : v = E &&& f_Reg_maskOf w) : RR (f_Reg_loadA S v) (f_Mdl_setAccumulator (f_Mdl_result T E n).2 (f_Mdl_result T E n).1) := by
  have k := s_setA (v := E) h hw
  have q : f_Reg_loadA S v = f_Reg_loadA S E := by
    subst ew
    unfold f_Reg_loadA
    rw [e, Int32.and_assoc, Int32.and_self]
  rw [q]
  exact k
theorem wr_reg {S : Sc} (c v w : Int32) : (f_Bus_writeValue S c v w).1 8 = S.1 8 := by
  unfold f_Bus_writeValue
  show (if w = (0 : Int32) then _ else _ : Sc).1 8 = _
  split <;> rfl
theorem cm0 (T : Sc) (km : Int32) : f_Mdl_changeMemory T km 0 = f_Mdl_store (f_Mdl_changed (f_Mdl_load (f_Mdl_findIndex T 0) (f_Mdl_is T 32)).2 km (f_Mdl_load (f_Mdl_findIndex T 0) (f_Mdl_is T 32)).1 (f_Mdl_is T 32)).2 (f_Mdl_changed (f_Mdl_load (f_Mdl_findIndex T 0) (f_Mdl_is T 32)).2 km (f_Mdl_load (f_Mdl_findIndex T 0) (f_Mdl_is T 32)).1 (f_Mdl_is T 32)).1 (f_Mdl_is T 32) := by
  rw [fi0]; rfl
theorem cm1 (T : Sc) (km : Int32) : f_Mdl_changeMemory T km 1 = f_Mdl_store (f_Mdl_changed (f_Mdl_load (f_Mdl_findIndex T 1) (f_Mdl_is T 32)).2 km (f_Mdl_load (f_Mdl_findIndex T 1) (f_Mdl_is T 32)).1 (f_Mdl_is T 32)).2 (f_Mdl_changed (f_Mdl_load (f_Mdl_findIndex T 1) (f_Mdl_is T 32)).2 km (f_Mdl_load (f_Mdl_findIndex T 1) (f_Mdl_is T 32)).1 (f_Mdl_is T 32)).1 (f_Mdl_is T 32) := by
  rw [fi1]; rfl
theorem s_cm {S T : Sc} (h : RR S T) (m x : Int32) (hm : (m = 5 ∧ x = 0) ∨ (m = 13 ∧ x = 1)) {kc km : Int32} {M : Sc} (hM : M = f_Mdl_store (f_Mdl_changed (f_Mdl_load (f_Mdl_findIndex T x) (f_Mdl_is T 32)).2 km (f_Mdl_load (f_Mdl_findIndex T x) (f_Mdl_is T 32)).1 (f_Mdl_is T 32)).2 (f_Mdl_changed (f_Mdl_load (f_Mdl_findIndex T x) (f_Mdl_is T 32)).2 km (f_Mdl_load (f_Mdl_findIndex T x) (f_Mdl_is T 32)).1 (f_Mdl_is T 32)).1 (f_Mdl_is T 32))
    (sc : ∀ {S T : Sc} {v w n : Int32}, RR S T → WN w n → v &&& f_Reg_maskOf w = v → SC S T v w n kc km) :
    RR (f_Bus_writeValue (f_Reg_showResult (f_Prc_changed (f_Bus_readValue (f_Opd_place S m).2 (f_Opd_place S m).1 (f_Reg_wideA S)).2 kc (f_Bus_readValue (f_Opd_place S m).2 (f_Opd_place S m).1 (f_Reg_wideA S)).1 (f_Reg_wideA S)).2 (f_Prc_changed (f_Bus_readValue (f_Opd_place S m).2 (f_Opd_place S m).1 (f_Reg_wideA S)).2 kc (f_Bus_readValue (f_Opd_place S m).2 (f_Opd_place S m).1 (f_Reg_wideA S)).1 (f_Reg_wideA S)).1 (f_Reg_wideA S)) (f_Opd_place S m).1 (f_Prc_changed (f_Bus_readValue (f_Opd_place S m).2 (f_Opd_place S m).1 (f_Reg_wideA S)).2 kc (f_Bus_readValue (f_Opd_place S m).2 (f_Opd_place S m).1 (f_Reg_wideA S)).1 (f_Reg_wideA S)).1 (f_Reg_wideA S)) M := by
  subst hM
  obtain ⟨f2, f3, f4, f5⟩ := sp_fi h m x hm
  have hw := WN_A h
  obtain ⟨l1, l2, l3⟩ := s_load f2 f3 hw
  obtain ⟨T2, Ex, q1, q2, q3, q4, q5, q6⟩ := sc l3 hw (rg_rv hw)
  have k := s_show (v := Ex) q2 hw
  have r1 := res_fr T2 Ex hw
  have r2 := ld_fr (f_Mdl_findIndex T x) hw
  have hp : PR (f_Opd_place S m).1 ((f_Mdl_result T2 Ex (f_Mdl_is T 32)).2.1 14) ((f_Mdl_result T2 Ex (f_Mdl_is T 32)).2.1 15) := by
    rw [r1.1, r1.2, q5, q6, r2.1, r2.2]
    exact f3
  rw [← q3] at k
  rw [l1] at q1
  rw [q1]
  exact s_store k.2 hp hw (by rw [k.1]) (fun _ => k.1.symm)
theorem ec_01 (S : Sc) : f_Prc_useAccumulator S (1 : Int32) = ((1 : Int32), (f_Reg_loadA (f_Bus_readValue (f_Opd_place S (1 : Int32)).2 (f_Opd_place S (1 : Int32)).1 (f_Reg_wideA S)).2 ((f_Reg_a (f_Bus_readValue (f_Opd_place S (1 : Int32)).2 (f_Opd_place S (1 : Int32)).1 (f_Reg_wideA S)).2) ||| (f_Bus_readValue (f_Opd_place S (1 : Int32)).2 (f_Opd_place S (1 : Int32)).1 (f_Reg_wideA S)).1))) := rfl
theorem em_01 (T : Sc) : f_Mdl_arithmetic T (1 : Int32) = ((1 : Int32), (f_Mdl_setAccumulator (f_Mdl_result (f_Mdl_load (f_Mdl_find T (1 : Int32)).2 (f_Mdl_is T (32 : Int32))).2 ((f_Mdl_accumulator (f_Mdl_load (f_Mdl_find T (1 : Int32)).2 (f_Mdl_is T (32 : Int32))).2) ||| (f_Mdl_load (f_Mdl_find T (1 : Int32)).2 (f_Mdl_is T (32 : Int32))).1) (f_Mdl_is T (32 : Int32))).2 (f_Mdl_result (f_Mdl_load (f_Mdl_find T (1 : Int32)).2 (f_Mdl_is T (32 : Int32))).2 ((f_Mdl_accumulator (f_Mdl_load (f_Mdl_find T (1 : Int32)).2 (f_Mdl_is T (32 : Int32))).2) ||| (f_Mdl_load (f_Mdl_find T (1 : Int32)).2 (f_Mdl_is T (32 : Int32))).1) (f_Mdl_is T (32 : Int32))).1)) := by
  have e : f_Mdl_arithmetic T (1 : Int32) = if (f_Mdl_find T (1 : Int32)).1 = (0 : Int32) then (((0 : Int32), (f_Mdl_find T (1 : Int32)).2)) else (((1 : Int32), (f_Mdl_setAccumulator (f_Mdl_result (f_Mdl_load (f_Mdl_find T (1 : Int32)).2 (f_Mdl_is T (32 : Int32))).2 ((f_Mdl_accumulator (f_Mdl_load (f_Mdl_find T (1 : Int32)).2 (f_Mdl_is T (32 : Int32))).2) ||| (f_Mdl_load (f_Mdl_find T (1 : Int32)).2 (f_Mdl_is T (32 : Int32))).1) (f_Mdl_is T (32 : Int32))).2 (f_Mdl_result (f_Mdl_load (f_Mdl_find T (1 : Int32)).2 (f_Mdl_is T (32 : Int32))).2 ((f_Mdl_accumulator (f_Mdl_load (f_Mdl_find T (1 : Int32)).2 (f_Mdl_is T (32 : Int32))).2) ||| (f_Mdl_load (f_Mdl_find T (1 : Int32)).2 (f_Mdl_is T (32 : Int32))).1) (f_Mdl_is T (32 : Int32))).1))) := rfl
  rw [e, fd1_1, if_neg (by decide : ¬ (1 : Int32) = 0)]
theorem o_01 {S T : Sc} (h : RR S T) : KO (f_Prc_useAccumulator S (1 : Int32)) (f_Mdl_arithmetic T (1 : Int32)) := by
  rw [ec_01, em_01]
  obtain ⟨f1, f2, f3, f4⟩ := sp_1 h
  obtain ⟨l1, l2, l3⟩ := s_load f2 f3 (WN_A h)
  have lf := (fr_rv (S := (f_Opd_place S 1).2) (c := (f_Opd_place S 1).1) (WN_A h)).trans f4
  have hw := WN_fr h lf
  exact ⟨rfl, rfl, s_setA2 l3 hw (by rw [acc_eq l3, l1])⟩
theorem ec_03 (S : Sc) : f_Prc_useAccumulator S (3 : Int32) = ((1 : Int32), (f_Reg_loadA (f_Bus_readValue (f_Opd_place S (3 : Int32)).2 (f_Opd_place S (3 : Int32)).1 (f_Reg_wideA S)).2 ((f_Reg_a (f_Bus_readValue (f_Opd_place S (3 : Int32)).2 (f_Opd_place S (3 : Int32)).1 (f_Reg_wideA S)).2) ||| (f_Bus_readValue (f_Opd_place S (3 : Int32)).2 (f_Opd_place S (3 : Int32)).1 (f_Reg_wideA S)).1))) := rfl
theorem em_03 (T : Sc) : f_Mdl_arithmetic T (3 : Int32) = ((1 : Int32), (f_Mdl_setAccumulator (f_Mdl_result (f_Mdl_load (f_Mdl_find T (3 : Int32)).2 (f_Mdl_is T (32 : Int32))).2 ((f_Mdl_accumulator (f_Mdl_load (f_Mdl_find T (3 : Int32)).2 (f_Mdl_is T (32 : Int32))).2) ||| (f_Mdl_load (f_Mdl_find T (3 : Int32)).2 (f_Mdl_is T (32 : Int32))).1) (f_Mdl_is T (32 : Int32))).2 (f_Mdl_result (f_Mdl_load (f_Mdl_find T (3 : Int32)).2 (f_Mdl_is T (32 : Int32))).2 ((f_Mdl_accumulator (f_Mdl_load (f_Mdl_find T (3 : Int32)).2 (f_Mdl_is T (32 : Int32))).2) ||| (f_Mdl_load (f_Mdl_find T (3 : Int32)).2 (f_Mdl_is T (32 : Int32))).1) (f_Mdl_is T (32 : Int32))).1)) := by
  have e : f_Mdl_arithmetic T (3 : Int32) = if (f_Mdl_find T (3 : Int32)).1 = (0 : Int32) then (((0 : Int32), (f_Mdl_find T (3 : Int32)).2)) else (((1 : Int32), (f_Mdl_setAccumulator (f_Mdl_result (f_Mdl_load (f_Mdl_find T (3 : Int32)).2 (f_Mdl_is T (32 : Int32))).2 ((f_Mdl_accumulator (f_Mdl_load (f_Mdl_find T (3 : Int32)).2 (f_Mdl_is T (32 : Int32))).2) ||| (f_Mdl_load (f_Mdl_find T (3 : Int32)).2 (f_Mdl_is T (32 : Int32))).1) (f_Mdl_is T (32 : Int32))).2 (f_Mdl_result (f_Mdl_load (f_Mdl_find T (3 : Int32)).2 (f_Mdl_is T (32 : Int32))).2 ((f_Mdl_accumulator (f_Mdl_load (f_Mdl_find T (3 : Int32)).2 (f_Mdl_is T (32 : Int32))).2) ||| (f_Mdl_load (f_Mdl_find T (3 : Int32)).2 (f_Mdl_is T (32 : Int32))).1) (f_Mdl_is T (32 : Int32))).1))) := rfl
  rw [e, fd1_3, if_neg (by decide : ¬ (1 : Int32) = 0)]
theorem o_03 {S T : Sc} (h : RR S T) : KO (f_Prc_useAccumulator S (3 : Int32)) (f_Mdl_arithmetic T (3 : Int32)) := by
  rw [ec_03, em_03]
  obtain ⟨f1, f2, f3, f4⟩ := sp_3 h
  obtain ⟨l1, l2, l3⟩ := s_load f2 f3 (WN_A h)
  have lf := (fr_rv (S := (f_Opd_place S 3).2) (c := (f_Opd_place S 3).1) (WN_A h)).trans f4
  have hw := WN_fr h lf
  exact ⟨rfl, rfl, s_setA2 l3 hw (by rw [acc_eq l3, l1])⟩
theorem ec_05 (S : Sc) : f_Prc_useAccumulator S (5 : Int32) = ((1 : Int32), (f_Reg_loadA (f_Bus_readValue (f_Opd_place S (5 : Int32)).2 (f_Opd_place S (5 : Int32)).1 (f_Reg_wideA S)).2 ((f_Reg_a (f_Bus_readValue (f_Opd_place S (5 : Int32)).2 (f_Opd_place S (5 : Int32)).1 (f_Reg_wideA S)).2) ||| (f_Bus_readValue (f_Opd_place S (5 : Int32)).2 (f_Opd_place S (5 : Int32)).1 (f_Reg_wideA S)).1))) := rfl
theorem em_05 (T : Sc) : f_Mdl_arithmetic T (5 : Int32) = ((1 : Int32), (f_Mdl_setAccumulator (f_Mdl_result (f_Mdl_load (f_Mdl_find T (5 : Int32)).2 (f_Mdl_is T (32 : Int32))).2 ((f_Mdl_accumulator (f_Mdl_load (f_Mdl_find T (5 : Int32)).2 (f_Mdl_is T (32 : Int32))).2) ||| (f_Mdl_load (f_Mdl_find T (5 : Int32)).2 (f_Mdl_is T (32 : Int32))).1) (f_Mdl_is T (32 : Int32))).2 (f_Mdl_result (f_Mdl_load (f_Mdl_find T (5 : Int32)).2 (f_Mdl_is T (32 : Int32))).2 ((f_Mdl_accumulator (f_Mdl_load (f_Mdl_find T (5 : Int32)).2 (f_Mdl_is T (32 : Int32))).2) ||| (f_Mdl_load (f_Mdl_find T (5 : Int32)).2 (f_Mdl_is T (32 : Int32))).1) (f_Mdl_is T (32 : Int32))).1)) := by
  have e : f_Mdl_arithmetic T (5 : Int32) = if (f_Mdl_find T (5 : Int32)).1 = (0 : Int32) then (((0 : Int32), (f_Mdl_find T (5 : Int32)).2)) else (((1 : Int32), (f_Mdl_setAccumulator (f_Mdl_result (f_Mdl_load (f_Mdl_find T (5 : Int32)).2 (f_Mdl_is T (32 : Int32))).2 ((f_Mdl_accumulator (f_Mdl_load (f_Mdl_find T (5 : Int32)).2 (f_Mdl_is T (32 : Int32))).2) ||| (f_Mdl_load (f_Mdl_find T (5 : Int32)).2 (f_Mdl_is T (32 : Int32))).1) (f_Mdl_is T (32 : Int32))).2 (f_Mdl_result (f_Mdl_load (f_Mdl_find T (5 : Int32)).2 (f_Mdl_is T (32 : Int32))).2 ((f_Mdl_accumulator (f_Mdl_load (f_Mdl_find T (5 : Int32)).2 (f_Mdl_is T (32 : Int32))).2) ||| (f_Mdl_load (f_Mdl_find T (5 : Int32)).2 (f_Mdl_is T (32 : Int32))).1) (f_Mdl_is T (32 : Int32))).1))) := rfl
  rw [e, fd1_5, if_neg (by decide : ¬ (1 : Int32) = 0)]
theorem o_05 {S T : Sc} (h : RR S T) : KO (f_Prc_useAccumulator S (5 : Int32)) (f_Mdl_arithmetic T (5 : Int32)) := by
  rw [ec_05, em_05]
  obtain ⟨f1, f2, f3, f4⟩ := sp_5 h
  obtain ⟨l1, l2, l3⟩ := s_load f2 f3 (WN_A h)
  have lf := (fr_rv (S := (f_Opd_place S 5).2) (c := (f_Opd_place S 5).1) (WN_A h)).trans f4
  have hw := WN_fr h lf
  exact ⟨rfl, rfl, s_setA2 l3 hw (by rw [acc_eq l3, l1])⟩
theorem ec_06 (S : Sc) : f_Prc_changeMemory S (6 : Int32) = ((1 : Int32), (f_Bus_writeValue (f_Reg_showResult (f_Prc_changed (f_Bus_readValue (f_Opd_place S (5 : Int32)).2 (f_Opd_place S (5 : Int32)).1 (f_Reg_wideA S)).2 (0 : Int32) (f_Bus_readValue (f_Opd_place S (5 : Int32)).2 (f_Opd_place S (5 : Int32)).1 (f_Reg_wideA S)).1 (f_Reg_wideA S)).2 (f_Prc_changed (f_Bus_readValue (f_Opd_place S (5 : Int32)).2 (f_Opd_place S (5 : Int32)).1 (f_Reg_wideA S)).2 (0 : Int32) (f_Bus_readValue (f_Opd_place S (5 : Int32)).2 (f_Opd_place S (5 : Int32)).1 (f_Reg_wideA S)).1 (f_Reg_wideA S)).1 (f_Reg_wideA S)) (f_Opd_place S (5 : Int32)).1 (f_Prc_changed (f_Bus_readValue (f_Opd_place S (5 : Int32)).2 (f_Opd_place S (5 : Int32)).1 (f_Reg_wideA S)).2 (0 : Int32) (f_Bus_readValue (f_Opd_place S (5 : Int32)).2 (f_Opd_place S (5 : Int32)).1 (f_Reg_wideA S)).1 (f_Reg_wideA S)).1 (f_Reg_wideA S))) := rfl
theorem em_06 (T : Sc) : f_Mdl_change T (6 : Int32) = ((1 : Int32), (f_Mdl_changeMemory T (2 : Int32) (0 : Int32))) := rfl
theorem o_06 {S T : Sc} (h : RR S T) : KO (f_Prc_changeMemory S (6 : Int32)) (f_Mdl_change T (6 : Int32)) := by
  rw [ec_06, em_06]
  exact ⟨rfl, rfl, s_cm h 5 0 (Or.inl ⟨rfl, rfl⟩) (cm0 T 2) (fun {S T : Sc} {v w n : Int32} => sc_0)⟩
theorem ec_07 (S : Sc) : f_Prc_useAccumulator S (7 : Int32) = ((1 : Int32), (f_Reg_loadA (f_Bus_readValue (f_Opd_place S (7 : Int32)).2 (f_Opd_place S (7 : Int32)).1 (f_Reg_wideA S)).2 ((f_Reg_a (f_Bus_readValue (f_Opd_place S (7 : Int32)).2 (f_Opd_place S (7 : Int32)).1 (f_Reg_wideA S)).2) ||| (f_Bus_readValue (f_Opd_place S (7 : Int32)).2 (f_Opd_place S (7 : Int32)).1 (f_Reg_wideA S)).1))) := rfl
theorem em_07 (T : Sc) : f_Mdl_arithmetic T (7 : Int32) = ((1 : Int32), (f_Mdl_setAccumulator (f_Mdl_result (f_Mdl_load (f_Mdl_find T (7 : Int32)).2 (f_Mdl_is T (32 : Int32))).2 ((f_Mdl_accumulator (f_Mdl_load (f_Mdl_find T (7 : Int32)).2 (f_Mdl_is T (32 : Int32))).2) ||| (f_Mdl_load (f_Mdl_find T (7 : Int32)).2 (f_Mdl_is T (32 : Int32))).1) (f_Mdl_is T (32 : Int32))).2 (f_Mdl_result (f_Mdl_load (f_Mdl_find T (7 : Int32)).2 (f_Mdl_is T (32 : Int32))).2 ((f_Mdl_accumulator (f_Mdl_load (f_Mdl_find T (7 : Int32)).2 (f_Mdl_is T (32 : Int32))).2) ||| (f_Mdl_load (f_Mdl_find T (7 : Int32)).2 (f_Mdl_is T (32 : Int32))).1) (f_Mdl_is T (32 : Int32))).1)) := by
  have e : f_Mdl_arithmetic T (7 : Int32) = if (f_Mdl_find T (7 : Int32)).1 = (0 : Int32) then (((0 : Int32), (f_Mdl_find T (7 : Int32)).2)) else (((1 : Int32), (f_Mdl_setAccumulator (f_Mdl_result (f_Mdl_load (f_Mdl_find T (7 : Int32)).2 (f_Mdl_is T (32 : Int32))).2 ((f_Mdl_accumulator (f_Mdl_load (f_Mdl_find T (7 : Int32)).2 (f_Mdl_is T (32 : Int32))).2) ||| (f_Mdl_load (f_Mdl_find T (7 : Int32)).2 (f_Mdl_is T (32 : Int32))).1) (f_Mdl_is T (32 : Int32))).2 (f_Mdl_result (f_Mdl_load (f_Mdl_find T (7 : Int32)).2 (f_Mdl_is T (32 : Int32))).2 ((f_Mdl_accumulator (f_Mdl_load (f_Mdl_find T (7 : Int32)).2 (f_Mdl_is T (32 : Int32))).2) ||| (f_Mdl_load (f_Mdl_find T (7 : Int32)).2 (f_Mdl_is T (32 : Int32))).1) (f_Mdl_is T (32 : Int32))).1))) := rfl
  rw [e, fd1_7, if_neg (by decide : ¬ (1 : Int32) = 0)]
theorem o_07 {S T : Sc} (h : RR S T) : KO (f_Prc_useAccumulator S (7 : Int32)) (f_Mdl_arithmetic T (7 : Int32)) := by
  rw [ec_07, em_07]
  obtain ⟨f1, f2, f3, f4⟩ := sp_7 h
  obtain ⟨l1, l2, l3⟩ := s_load f2 f3 (WN_A h)
  have lf := (fr_rv (S := (f_Opd_place S 7).2) (c := (f_Opd_place S 7).1) (WN_A h)).trans f4
  have hw := WN_fr h lf
  exact ⟨rfl, rfl, s_setA2 l3 hw (by rw [acc_eq l3, l1])⟩
theorem ec_08 (S : Sc) : f_Prc_push S (8 : Int32) = ((1 : Int32), (f_Stk_pushByte S (S.1 8))) := rfl
theorem em_08 (T : Sc) : f_Mdl_stack T (8 : Int32) = ((1 : Int32), (f_Mdl_push T (T.1 6))) := rfl
theorem o_08 {S T : Sc} (h : RR S T) : KO (f_Prc_push S (8 : Int32)) (f_Mdl_stack T (8 : Int32)) := by
  rw [ec_08, em_08]
  exact ⟨rfl, rfl, s_push h (by rw [RRe_8 h])⟩
theorem ec_09 (S : Sc) : f_Prc_useAccumulator S (9 : Int32) = ((1 : Int32), (f_Reg_loadA (f_Opd_nextValue S (f_Reg_wideA S)).2 ((f_Reg_a (f_Opd_nextValue S (f_Reg_wideA S)).2) ||| (f_Opd_nextValue S (f_Reg_wideA S)).1))) := rfl
theorem em_09 (T : Sc) : f_Mdl_arithmetic T (9 : Int32) = ((1 : Int32), (f_Mdl_setAccumulator (f_Mdl_result (f_Mdl_immediate T (f_Mdl_is T (32 : Int32))).2 ((f_Mdl_accumulator (f_Mdl_immediate T (f_Mdl_is T (32 : Int32))).2) ||| (f_Mdl_immediate T (f_Mdl_is T (32 : Int32))).1) (f_Mdl_is T (32 : Int32))).2 (f_Mdl_result (f_Mdl_immediate T (f_Mdl_is T (32 : Int32))).2 ((f_Mdl_accumulator (f_Mdl_immediate T (f_Mdl_is T (32 : Int32))).2) ||| (f_Mdl_immediate T (f_Mdl_is T (32 : Int32))).1) (f_Mdl_is T (32 : Int32))).1)) := rfl
theorem o_09 {S T : Sc} (h : RR S T) : KO (f_Prc_useAccumulator S (9 : Int32)) (f_Mdl_arithmetic T (9 : Int32)) := by
  rw [ec_09, em_09]
  obtain ⟨l1, l2, l3⟩ := s_nv h (WN_A h)
  have lf := fr_nv (S := S) (WN_A h)
  have hw := WN_fr h lf
  exact ⟨rfl, rfl, s_setA2 l3 hw (by rw [acc_eq l3, l1])⟩
theorem ec_0A (S : Sc) : f_Prc_changeRegister S (10 : Int32) = ((1 : Int32), (f_Reg_loadA (f_Prc_changed S (0 : Int32) (f_Reg_a S) (f_Reg_wideA S)).2 (f_Prc_changed S (0 : Int32) (f_Reg_a S) (f_Reg_wideA S)).1)) := rfl
theorem em_0A (T : Sc) : f_Mdl_change T (10 : Int32) = ((1 : Int32), (f_Mdl_setAccumulator (f_Mdl_changed T (2 : Int32) (f_Mdl_accumulator T) (f_Mdl_is T (32 : Int32))).2 (f_Mdl_changed T (2 : Int32) (f_Mdl_accumulator T) (f_Mdl_is T (32 : Int32))).1)) := rfl
theorem o_0A {S T : Sc} (h : RR S T) : KO (f_Prc_changeRegister S (10 : Int32)) (f_Mdl_change T (10 : Int32)) := by
  rw [ec_0A, em_0A]
  obtain ⟨T2, Ex, q1, q2, q3, q4, -, -⟩ := sc_0 h (WN_A h) (a_rg S)
  rw [← acc_eq h, q1]
  exact ⟨rfl, rfl, s_setA3 q2 (WN_b h q4) (WN_A h) (wA_b q4) q3⟩
theorem ec_0B (S : Sc) : f_Prc_push S (11 : Int32) = ((1 : Int32), (f_Stk_pushWord S (S.1 4))) := rfl
theorem em_0B (T : Sc) : f_Mdl_stack T (11 : Int32) = ((1 : Int32), (f_Mdl_pushWord T (T.1 4))) := rfl
theorem o_0B {S T : Sc} (h : RR S T) : KO (f_Prc_push S (11 : Int32)) (f_Mdl_stack T (11 : Int32)) := by
  rw [ec_0B, em_0B]
  exact ⟨rfl, rfl, s_pushW2 h (RRe_4 h)⟩
theorem ec_0D (S : Sc) : f_Prc_useAccumulator S (13 : Int32) = ((1 : Int32), (f_Reg_loadA (f_Bus_readValue (f_Opd_place S (13 : Int32)).2 (f_Opd_place S (13 : Int32)).1 (f_Reg_wideA S)).2 ((f_Reg_a (f_Bus_readValue (f_Opd_place S (13 : Int32)).2 (f_Opd_place S (13 : Int32)).1 (f_Reg_wideA S)).2) ||| (f_Bus_readValue (f_Opd_place S (13 : Int32)).2 (f_Opd_place S (13 : Int32)).1 (f_Reg_wideA S)).1))) := rfl
theorem em_0D (T : Sc) : f_Mdl_arithmetic T (13 : Int32) = ((1 : Int32), (f_Mdl_setAccumulator (f_Mdl_result (f_Mdl_load (f_Mdl_find T (13 : Int32)).2 (f_Mdl_is T (32 : Int32))).2 ((f_Mdl_accumulator (f_Mdl_load (f_Mdl_find T (13 : Int32)).2 (f_Mdl_is T (32 : Int32))).2) ||| (f_Mdl_load (f_Mdl_find T (13 : Int32)).2 (f_Mdl_is T (32 : Int32))).1) (f_Mdl_is T (32 : Int32))).2 (f_Mdl_result (f_Mdl_load (f_Mdl_find T (13 : Int32)).2 (f_Mdl_is T (32 : Int32))).2 ((f_Mdl_accumulator (f_Mdl_load (f_Mdl_find T (13 : Int32)).2 (f_Mdl_is T (32 : Int32))).2) ||| (f_Mdl_load (f_Mdl_find T (13 : Int32)).2 (f_Mdl_is T (32 : Int32))).1) (f_Mdl_is T (32 : Int32))).1)) := by
  have e : f_Mdl_arithmetic T (13 : Int32) = if (f_Mdl_find T (13 : Int32)).1 = (0 : Int32) then (((0 : Int32), (f_Mdl_find T (13 : Int32)).2)) else (((1 : Int32), (f_Mdl_setAccumulator (f_Mdl_result (f_Mdl_load (f_Mdl_find T (13 : Int32)).2 (f_Mdl_is T (32 : Int32))).2 ((f_Mdl_accumulator (f_Mdl_load (f_Mdl_find T (13 : Int32)).2 (f_Mdl_is T (32 : Int32))).2) ||| (f_Mdl_load (f_Mdl_find T (13 : Int32)).2 (f_Mdl_is T (32 : Int32))).1) (f_Mdl_is T (32 : Int32))).2 (f_Mdl_result (f_Mdl_load (f_Mdl_find T (13 : Int32)).2 (f_Mdl_is T (32 : Int32))).2 ((f_Mdl_accumulator (f_Mdl_load (f_Mdl_find T (13 : Int32)).2 (f_Mdl_is T (32 : Int32))).2) ||| (f_Mdl_load (f_Mdl_find T (13 : Int32)).2 (f_Mdl_is T (32 : Int32))).1) (f_Mdl_is T (32 : Int32))).1))) := rfl
  rw [e, fd1_13, if_neg (by decide : ¬ (1 : Int32) = 0)]
theorem o_0D {S T : Sc} (h : RR S T) : KO (f_Prc_useAccumulator S (13 : Int32)) (f_Mdl_arithmetic T (13 : Int32)) := by
  rw [ec_0D, em_0D]
  obtain ⟨f1, f2, f3, f4⟩ := sp_13 h
  obtain ⟨l1, l2, l3⟩ := s_load f2 f3 (WN_A h)
  have lf := (fr_rv (S := (f_Opd_place S 13).2) (c := (f_Opd_place S 13).1) (WN_A h)).trans f4
  have hw := WN_fr h lf
  exact ⟨rfl, rfl, s_setA2 l3 hw (by rw [acc_eq l3, l1])⟩
theorem ec_0F (S : Sc) : f_Prc_useAccumulator S (15 : Int32) = ((1 : Int32), (f_Reg_loadA (f_Bus_readValue (f_Opd_place S (15 : Int32)).2 (f_Opd_place S (15 : Int32)).1 (f_Reg_wideA S)).2 ((f_Reg_a (f_Bus_readValue (f_Opd_place S (15 : Int32)).2 (f_Opd_place S (15 : Int32)).1 (f_Reg_wideA S)).2) ||| (f_Bus_readValue (f_Opd_place S (15 : Int32)).2 (f_Opd_place S (15 : Int32)).1 (f_Reg_wideA S)).1))) := rfl
theorem em_0F (T : Sc) : f_Mdl_arithmetic T (15 : Int32) = ((1 : Int32), (f_Mdl_setAccumulator (f_Mdl_result (f_Mdl_load (f_Mdl_find T (15 : Int32)).2 (f_Mdl_is T (32 : Int32))).2 ((f_Mdl_accumulator (f_Mdl_load (f_Mdl_find T (15 : Int32)).2 (f_Mdl_is T (32 : Int32))).2) ||| (f_Mdl_load (f_Mdl_find T (15 : Int32)).2 (f_Mdl_is T (32 : Int32))).1) (f_Mdl_is T (32 : Int32))).2 (f_Mdl_result (f_Mdl_load (f_Mdl_find T (15 : Int32)).2 (f_Mdl_is T (32 : Int32))).2 ((f_Mdl_accumulator (f_Mdl_load (f_Mdl_find T (15 : Int32)).2 (f_Mdl_is T (32 : Int32))).2) ||| (f_Mdl_load (f_Mdl_find T (15 : Int32)).2 (f_Mdl_is T (32 : Int32))).1) (f_Mdl_is T (32 : Int32))).1)) := by
  have e : f_Mdl_arithmetic T (15 : Int32) = if (f_Mdl_find T (15 : Int32)).1 = (0 : Int32) then (((0 : Int32), (f_Mdl_find T (15 : Int32)).2)) else (((1 : Int32), (f_Mdl_setAccumulator (f_Mdl_result (f_Mdl_load (f_Mdl_find T (15 : Int32)).2 (f_Mdl_is T (32 : Int32))).2 ((f_Mdl_accumulator (f_Mdl_load (f_Mdl_find T (15 : Int32)).2 (f_Mdl_is T (32 : Int32))).2) ||| (f_Mdl_load (f_Mdl_find T (15 : Int32)).2 (f_Mdl_is T (32 : Int32))).1) (f_Mdl_is T (32 : Int32))).2 (f_Mdl_result (f_Mdl_load (f_Mdl_find T (15 : Int32)).2 (f_Mdl_is T (32 : Int32))).2 ((f_Mdl_accumulator (f_Mdl_load (f_Mdl_find T (15 : Int32)).2 (f_Mdl_is T (32 : Int32))).2) ||| (f_Mdl_load (f_Mdl_find T (15 : Int32)).2 (f_Mdl_is T (32 : Int32))).1) (f_Mdl_is T (32 : Int32))).1))) := rfl
  rw [e, fd1_15, if_neg (by decide : ¬ (1 : Int32) = 0)]
theorem o_0F {S T : Sc} (h : RR S T) : KO (f_Prc_useAccumulator S (15 : Int32)) (f_Mdl_arithmetic T (15 : Int32)) := by
  rw [ec_0F, em_0F]
  obtain ⟨f1, f2, f3, f4⟩ := sp_15 h
  obtain ⟨l1, l2, l3⟩ := s_load f2 f3 (WN_A h)
  have lf := (fr_rv (S := (f_Opd_place S 15).2) (c := (f_Opd_place S 15).1) (WN_A h)).trans f4
  have hw := WN_fr h lf
  exact ⟨rfl, rfl, s_setA2 l3 hw (by rw [acc_eq l3, l1])⟩
theorem ec_10 (S : Sc) : f_Prc_branch S (16 : Int32) = if (f_Reg_has (f_Opd_nextByte S).2 (bf ((0 : Int32)).toNatClampNeg)) = (0 : Int32) then (((1 : Int32), (f_Reg_jumpTo (f_Opd_nextByte S).2 (((f_Opd_nextByte S).2.1 7) + (((f_Opd_nextByte S).1).toInt8.toInt32))))) else (((1 : Int32), (f_Opd_nextByte S).2)) := rfl
theorem em_10 (T : Sc) : f_Mdl_jump T (16 : Int32) = if (f_Mdl_is T (128 : Int32)) = (0 : Int32) then (((1 : Int32), (f_Mdl_branch T (1 : Int32)))) else (((1 : Int32), (f_Mdl_branch T (0 : Int32)))) := rfl
theorem o_10 {S T : Sc} (h : RR S T) : KO (f_Prc_branch S (16 : Int32)) (f_Mdl_jump T (16 : Int32)) := by
  rw [ec_10, em_10]
  have e : f_Reg_has (f_Opd_nextByte S).2 (128 : Int32) = f_Mdl_is T (128 : Int32) := has_n h (128 : Int32)
  have eb : bf (0 : Int32).toNatClampNeg = (128 : Int32) := rfl
  rw [eb, e]
  by_cases z : f_Mdl_is T (128 : Int32) = (0 : Int32)
  · rw [if_pos z, if_pos z]; exact ⟨rfl, rfl, (s_br (x := 1) h).1 (by decide)⟩
  · rw [if_neg z, if_neg z]; exact ⟨rfl, rfl, (s_br (x := 0) h).2 rfl⟩
theorem ec_11 (S : Sc) : f_Prc_useAccumulator S (17 : Int32) = ((1 : Int32), (f_Reg_loadA (f_Bus_readValue (f_Opd_place S (17 : Int32)).2 (f_Opd_place S (17 : Int32)).1 (f_Reg_wideA S)).2 ((f_Reg_a (f_Bus_readValue (f_Opd_place S (17 : Int32)).2 (f_Opd_place S (17 : Int32)).1 (f_Reg_wideA S)).2) ||| (f_Bus_readValue (f_Opd_place S (17 : Int32)).2 (f_Opd_place S (17 : Int32)).1 (f_Reg_wideA S)).1))) := rfl
theorem em_11 (T : Sc) : f_Mdl_arithmetic T (17 : Int32) = ((1 : Int32), (f_Mdl_setAccumulator (f_Mdl_result (f_Mdl_load (f_Mdl_find T (17 : Int32)).2 (f_Mdl_is T (32 : Int32))).2 ((f_Mdl_accumulator (f_Mdl_load (f_Mdl_find T (17 : Int32)).2 (f_Mdl_is T (32 : Int32))).2) ||| (f_Mdl_load (f_Mdl_find T (17 : Int32)).2 (f_Mdl_is T (32 : Int32))).1) (f_Mdl_is T (32 : Int32))).2 (f_Mdl_result (f_Mdl_load (f_Mdl_find T (17 : Int32)).2 (f_Mdl_is T (32 : Int32))).2 ((f_Mdl_accumulator (f_Mdl_load (f_Mdl_find T (17 : Int32)).2 (f_Mdl_is T (32 : Int32))).2) ||| (f_Mdl_load (f_Mdl_find T (17 : Int32)).2 (f_Mdl_is T (32 : Int32))).1) (f_Mdl_is T (32 : Int32))).1)) := by
  have e : f_Mdl_arithmetic T (17 : Int32) = if (f_Mdl_find T (17 : Int32)).1 = (0 : Int32) then (((0 : Int32), (f_Mdl_find T (17 : Int32)).2)) else (((1 : Int32), (f_Mdl_setAccumulator (f_Mdl_result (f_Mdl_load (f_Mdl_find T (17 : Int32)).2 (f_Mdl_is T (32 : Int32))).2 ((f_Mdl_accumulator (f_Mdl_load (f_Mdl_find T (17 : Int32)).2 (f_Mdl_is T (32 : Int32))).2) ||| (f_Mdl_load (f_Mdl_find T (17 : Int32)).2 (f_Mdl_is T (32 : Int32))).1) (f_Mdl_is T (32 : Int32))).2 (f_Mdl_result (f_Mdl_load (f_Mdl_find T (17 : Int32)).2 (f_Mdl_is T (32 : Int32))).2 ((f_Mdl_accumulator (f_Mdl_load (f_Mdl_find T (17 : Int32)).2 (f_Mdl_is T (32 : Int32))).2) ||| (f_Mdl_load (f_Mdl_find T (17 : Int32)).2 (f_Mdl_is T (32 : Int32))).1) (f_Mdl_is T (32 : Int32))).1))) := rfl
  rw [e, fd1_17, if_neg (by decide : ¬ (1 : Int32) = 0)]
theorem o_11 {S T : Sc} (h : RR S T) : KO (f_Prc_useAccumulator S (17 : Int32)) (f_Mdl_arithmetic T (17 : Int32)) := by
  rw [ec_11, em_11]
  obtain ⟨f1, f2, f3, f4⟩ := sp_17 h
  obtain ⟨l1, l2, l3⟩ := s_load f2 f3 (WN_A h)
  have lf := (fr_rv (S := (f_Opd_place S 17).2) (c := (f_Opd_place S 17).1) (WN_A h)).trans f4
  have hw := WN_fr h lf
  exact ⟨rfl, rfl, s_setA2 l3 hw (by rw [acc_eq l3, l1])⟩
theorem ec_12 (S : Sc) : f_Prc_useAccumulator S (18 : Int32) = ((1 : Int32), (f_Reg_loadA (f_Bus_readValue (f_Opd_place S (18 : Int32)).2 (f_Opd_place S (18 : Int32)).1 (f_Reg_wideA S)).2 ((f_Reg_a (f_Bus_readValue (f_Opd_place S (18 : Int32)).2 (f_Opd_place S (18 : Int32)).1 (f_Reg_wideA S)).2) ||| (f_Bus_readValue (f_Opd_place S (18 : Int32)).2 (f_Opd_place S (18 : Int32)).1 (f_Reg_wideA S)).1))) := rfl
theorem em_12 (T : Sc) : f_Mdl_arithmetic T (18 : Int32) = ((1 : Int32), (f_Mdl_setAccumulator (f_Mdl_result (f_Mdl_load (f_Mdl_find T (18 : Int32)).2 (f_Mdl_is T (32 : Int32))).2 ((f_Mdl_accumulator (f_Mdl_load (f_Mdl_find T (18 : Int32)).2 (f_Mdl_is T (32 : Int32))).2) ||| (f_Mdl_load (f_Mdl_find T (18 : Int32)).2 (f_Mdl_is T (32 : Int32))).1) (f_Mdl_is T (32 : Int32))).2 (f_Mdl_result (f_Mdl_load (f_Mdl_find T (18 : Int32)).2 (f_Mdl_is T (32 : Int32))).2 ((f_Mdl_accumulator (f_Mdl_load (f_Mdl_find T (18 : Int32)).2 (f_Mdl_is T (32 : Int32))).2) ||| (f_Mdl_load (f_Mdl_find T (18 : Int32)).2 (f_Mdl_is T (32 : Int32))).1) (f_Mdl_is T (32 : Int32))).1)) := by
  have e : f_Mdl_arithmetic T (18 : Int32) = if (f_Mdl_find T (18 : Int32)).1 = (0 : Int32) then (((0 : Int32), (f_Mdl_find T (18 : Int32)).2)) else (((1 : Int32), (f_Mdl_setAccumulator (f_Mdl_result (f_Mdl_load (f_Mdl_find T (18 : Int32)).2 (f_Mdl_is T (32 : Int32))).2 ((f_Mdl_accumulator (f_Mdl_load (f_Mdl_find T (18 : Int32)).2 (f_Mdl_is T (32 : Int32))).2) ||| (f_Mdl_load (f_Mdl_find T (18 : Int32)).2 (f_Mdl_is T (32 : Int32))).1) (f_Mdl_is T (32 : Int32))).2 (f_Mdl_result (f_Mdl_load (f_Mdl_find T (18 : Int32)).2 (f_Mdl_is T (32 : Int32))).2 ((f_Mdl_accumulator (f_Mdl_load (f_Mdl_find T (18 : Int32)).2 (f_Mdl_is T (32 : Int32))).2) ||| (f_Mdl_load (f_Mdl_find T (18 : Int32)).2 (f_Mdl_is T (32 : Int32))).1) (f_Mdl_is T (32 : Int32))).1))) := rfl
  rw [e, fd1_18, if_neg (by decide : ¬ (1 : Int32) = 0)]
theorem o_12 {S T : Sc} (h : RR S T) : KO (f_Prc_useAccumulator S (18 : Int32)) (f_Mdl_arithmetic T (18 : Int32)) := by
  rw [ec_12, em_12]
  obtain ⟨f1, f2, f3, f4⟩ := sp_18 h
  obtain ⟨l1, l2, l3⟩ := s_load f2 f3 (WN_A h)
  have lf := (fr_rv (S := (f_Opd_place S 18).2) (c := (f_Opd_place S 18).1) (WN_A h)).trans f4
  have hw := WN_fr h lf
  exact ⟨rfl, rfl, s_setA2 l3 hw (by rw [acc_eq l3, l1])⟩
theorem ec_13 (S : Sc) : f_Prc_useAccumulator S (19 : Int32) = ((1 : Int32), (f_Reg_loadA (f_Bus_readValue (f_Opd_place S (19 : Int32)).2 (f_Opd_place S (19 : Int32)).1 (f_Reg_wideA S)).2 ((f_Reg_a (f_Bus_readValue (f_Opd_place S (19 : Int32)).2 (f_Opd_place S (19 : Int32)).1 (f_Reg_wideA S)).2) ||| (f_Bus_readValue (f_Opd_place S (19 : Int32)).2 (f_Opd_place S (19 : Int32)).1 (f_Reg_wideA S)).1))) := rfl
theorem em_13 (T : Sc) : f_Mdl_arithmetic T (19 : Int32) = ((1 : Int32), (f_Mdl_setAccumulator (f_Mdl_result (f_Mdl_load (f_Mdl_find T (19 : Int32)).2 (f_Mdl_is T (32 : Int32))).2 ((f_Mdl_accumulator (f_Mdl_load (f_Mdl_find T (19 : Int32)).2 (f_Mdl_is T (32 : Int32))).2) ||| (f_Mdl_load (f_Mdl_find T (19 : Int32)).2 (f_Mdl_is T (32 : Int32))).1) (f_Mdl_is T (32 : Int32))).2 (f_Mdl_result (f_Mdl_load (f_Mdl_find T (19 : Int32)).2 (f_Mdl_is T (32 : Int32))).2 ((f_Mdl_accumulator (f_Mdl_load (f_Mdl_find T (19 : Int32)).2 (f_Mdl_is T (32 : Int32))).2) ||| (f_Mdl_load (f_Mdl_find T (19 : Int32)).2 (f_Mdl_is T (32 : Int32))).1) (f_Mdl_is T (32 : Int32))).1)) := by
  have e : f_Mdl_arithmetic T (19 : Int32) = if (f_Mdl_find T (19 : Int32)).1 = (0 : Int32) then (((0 : Int32), (f_Mdl_find T (19 : Int32)).2)) else (((1 : Int32), (f_Mdl_setAccumulator (f_Mdl_result (f_Mdl_load (f_Mdl_find T (19 : Int32)).2 (f_Mdl_is T (32 : Int32))).2 ((f_Mdl_accumulator (f_Mdl_load (f_Mdl_find T (19 : Int32)).2 (f_Mdl_is T (32 : Int32))).2) ||| (f_Mdl_load (f_Mdl_find T (19 : Int32)).2 (f_Mdl_is T (32 : Int32))).1) (f_Mdl_is T (32 : Int32))).2 (f_Mdl_result (f_Mdl_load (f_Mdl_find T (19 : Int32)).2 (f_Mdl_is T (32 : Int32))).2 ((f_Mdl_accumulator (f_Mdl_load (f_Mdl_find T (19 : Int32)).2 (f_Mdl_is T (32 : Int32))).2) ||| (f_Mdl_load (f_Mdl_find T (19 : Int32)).2 (f_Mdl_is T (32 : Int32))).1) (f_Mdl_is T (32 : Int32))).1))) := rfl
  rw [e, fd1_19, if_neg (by decide : ¬ (1 : Int32) = 0)]
theorem o_13 {S T : Sc} (h : RR S T) : KO (f_Prc_useAccumulator S (19 : Int32)) (f_Mdl_arithmetic T (19 : Int32)) := by
  rw [ec_13, em_13]
  obtain ⟨f1, f2, f3, f4⟩ := sp_19 h
  obtain ⟨l1, l2, l3⟩ := s_load f2 f3 (WN_A h)
  have lf := (fr_rv (S := (f_Opd_place S 19).2) (c := (f_Opd_place S 19).1) (WN_A h)).trans f4
  have hw := WN_fr h lf
  exact ⟨rfl, rfl, s_setA2 l3 hw (by rw [acc_eq l3, l1])⟩
theorem ec_15 (S : Sc) : f_Prc_useAccumulator S (21 : Int32) = ((1 : Int32), (f_Reg_loadA (f_Bus_readValue (f_Opd_place S (21 : Int32)).2 (f_Opd_place S (21 : Int32)).1 (f_Reg_wideA S)).2 ((f_Reg_a (f_Bus_readValue (f_Opd_place S (21 : Int32)).2 (f_Opd_place S (21 : Int32)).1 (f_Reg_wideA S)).2) ||| (f_Bus_readValue (f_Opd_place S (21 : Int32)).2 (f_Opd_place S (21 : Int32)).1 (f_Reg_wideA S)).1))) := rfl
theorem em_15 (T : Sc) : f_Mdl_arithmetic T (21 : Int32) = ((1 : Int32), (f_Mdl_setAccumulator (f_Mdl_result (f_Mdl_load (f_Mdl_find T (21 : Int32)).2 (f_Mdl_is T (32 : Int32))).2 ((f_Mdl_accumulator (f_Mdl_load (f_Mdl_find T (21 : Int32)).2 (f_Mdl_is T (32 : Int32))).2) ||| (f_Mdl_load (f_Mdl_find T (21 : Int32)).2 (f_Mdl_is T (32 : Int32))).1) (f_Mdl_is T (32 : Int32))).2 (f_Mdl_result (f_Mdl_load (f_Mdl_find T (21 : Int32)).2 (f_Mdl_is T (32 : Int32))).2 ((f_Mdl_accumulator (f_Mdl_load (f_Mdl_find T (21 : Int32)).2 (f_Mdl_is T (32 : Int32))).2) ||| (f_Mdl_load (f_Mdl_find T (21 : Int32)).2 (f_Mdl_is T (32 : Int32))).1) (f_Mdl_is T (32 : Int32))).1)) := by
  have e : f_Mdl_arithmetic T (21 : Int32) = if (f_Mdl_find T (21 : Int32)).1 = (0 : Int32) then (((0 : Int32), (f_Mdl_find T (21 : Int32)).2)) else (((1 : Int32), (f_Mdl_setAccumulator (f_Mdl_result (f_Mdl_load (f_Mdl_find T (21 : Int32)).2 (f_Mdl_is T (32 : Int32))).2 ((f_Mdl_accumulator (f_Mdl_load (f_Mdl_find T (21 : Int32)).2 (f_Mdl_is T (32 : Int32))).2) ||| (f_Mdl_load (f_Mdl_find T (21 : Int32)).2 (f_Mdl_is T (32 : Int32))).1) (f_Mdl_is T (32 : Int32))).2 (f_Mdl_result (f_Mdl_load (f_Mdl_find T (21 : Int32)).2 (f_Mdl_is T (32 : Int32))).2 ((f_Mdl_accumulator (f_Mdl_load (f_Mdl_find T (21 : Int32)).2 (f_Mdl_is T (32 : Int32))).2) ||| (f_Mdl_load (f_Mdl_find T (21 : Int32)).2 (f_Mdl_is T (32 : Int32))).1) (f_Mdl_is T (32 : Int32))).1))) := rfl
  rw [e, fd1_21, if_neg (by decide : ¬ (1 : Int32) = 0)]
theorem o_15 {S T : Sc} (h : RR S T) : KO (f_Prc_useAccumulator S (21 : Int32)) (f_Mdl_arithmetic T (21 : Int32)) := by
  rw [ec_15, em_15]
  obtain ⟨f1, f2, f3, f4⟩ := sp_21 h
  obtain ⟨l1, l2, l3⟩ := s_load f2 f3 (WN_A h)
  have lf := (fr_rv (S := (f_Opd_place S 21).2) (c := (f_Opd_place S 21).1) (WN_A h)).trans f4
  have hw := WN_fr h lf
  exact ⟨rfl, rfl, s_setA2 l3 hw (by rw [acc_eq l3, l1])⟩
theorem ec_17 (S : Sc) : f_Prc_useAccumulator S (23 : Int32) = ((1 : Int32), (f_Reg_loadA (f_Bus_readValue (f_Opd_place S (23 : Int32)).2 (f_Opd_place S (23 : Int32)).1 (f_Reg_wideA S)).2 ((f_Reg_a (f_Bus_readValue (f_Opd_place S (23 : Int32)).2 (f_Opd_place S (23 : Int32)).1 (f_Reg_wideA S)).2) ||| (f_Bus_readValue (f_Opd_place S (23 : Int32)).2 (f_Opd_place S (23 : Int32)).1 (f_Reg_wideA S)).1))) := rfl
theorem em_17 (T : Sc) : f_Mdl_arithmetic T (23 : Int32) = ((1 : Int32), (f_Mdl_setAccumulator (f_Mdl_result (f_Mdl_load (f_Mdl_find T (23 : Int32)).2 (f_Mdl_is T (32 : Int32))).2 ((f_Mdl_accumulator (f_Mdl_load (f_Mdl_find T (23 : Int32)).2 (f_Mdl_is T (32 : Int32))).2) ||| (f_Mdl_load (f_Mdl_find T (23 : Int32)).2 (f_Mdl_is T (32 : Int32))).1) (f_Mdl_is T (32 : Int32))).2 (f_Mdl_result (f_Mdl_load (f_Mdl_find T (23 : Int32)).2 (f_Mdl_is T (32 : Int32))).2 ((f_Mdl_accumulator (f_Mdl_load (f_Mdl_find T (23 : Int32)).2 (f_Mdl_is T (32 : Int32))).2) ||| (f_Mdl_load (f_Mdl_find T (23 : Int32)).2 (f_Mdl_is T (32 : Int32))).1) (f_Mdl_is T (32 : Int32))).1)) := by
  have e : f_Mdl_arithmetic T (23 : Int32) = if (f_Mdl_find T (23 : Int32)).1 = (0 : Int32) then (((0 : Int32), (f_Mdl_find T (23 : Int32)).2)) else (((1 : Int32), (f_Mdl_setAccumulator (f_Mdl_result (f_Mdl_load (f_Mdl_find T (23 : Int32)).2 (f_Mdl_is T (32 : Int32))).2 ((f_Mdl_accumulator (f_Mdl_load (f_Mdl_find T (23 : Int32)).2 (f_Mdl_is T (32 : Int32))).2) ||| (f_Mdl_load (f_Mdl_find T (23 : Int32)).2 (f_Mdl_is T (32 : Int32))).1) (f_Mdl_is T (32 : Int32))).2 (f_Mdl_result (f_Mdl_load (f_Mdl_find T (23 : Int32)).2 (f_Mdl_is T (32 : Int32))).2 ((f_Mdl_accumulator (f_Mdl_load (f_Mdl_find T (23 : Int32)).2 (f_Mdl_is T (32 : Int32))).2) ||| (f_Mdl_load (f_Mdl_find T (23 : Int32)).2 (f_Mdl_is T (32 : Int32))).1) (f_Mdl_is T (32 : Int32))).1))) := rfl
  rw [e, fd1_23, if_neg (by decide : ¬ (1 : Int32) = 0)]
theorem o_17 {S T : Sc} (h : RR S T) : KO (f_Prc_useAccumulator S (23 : Int32)) (f_Mdl_arithmetic T (23 : Int32)) := by
  rw [ec_17, em_17]
  obtain ⟨f1, f2, f3, f4⟩ := sp_23 h
  obtain ⟨l1, l2, l3⟩ := s_load f2 f3 (WN_A h)
  have lf := (fr_rv (S := (f_Opd_place S 23).2) (c := (f_Opd_place S 23).1) (WN_A h)).trans f4
  have hw := WN_fr h lf
  exact ⟨rfl, rfl, s_setA2 l3 hw (by rw [acc_eq l3, l1])⟩
theorem ec_18 (S : Sc) : f_Prc_changeFlags S (24 : Int32) = ((1 : Int32), (f_Reg_putFlag S (1 : Int32) (0 : Int32))) := rfl
theorem em_18 (T : Sc) : f_Mdl_other T (24 : Int32) = ((1 : Int32), (f_Mdl_flag T (1 : Int32) (0 : Int32))) := rfl
theorem o_18 {S T : Sc} (h : RR S T) : KO (f_Prc_changeFlags S (24 : Int32)) (f_Mdl_other T (24 : Int32)) := by
  rw [ec_18, em_18]
  exact ⟨rfl, rfl, s_flag h 1 0 (by decide)⟩
theorem ec_19 (S : Sc) : f_Prc_useAccumulator S (25 : Int32) = ((1 : Int32), (f_Reg_loadA (f_Bus_readValue (f_Opd_place S (25 : Int32)).2 (f_Opd_place S (25 : Int32)).1 (f_Reg_wideA S)).2 ((f_Reg_a (f_Bus_readValue (f_Opd_place S (25 : Int32)).2 (f_Opd_place S (25 : Int32)).1 (f_Reg_wideA S)).2) ||| (f_Bus_readValue (f_Opd_place S (25 : Int32)).2 (f_Opd_place S (25 : Int32)).1 (f_Reg_wideA S)).1))) := rfl
theorem em_19 (T : Sc) : f_Mdl_arithmetic T (25 : Int32) = ((1 : Int32), (f_Mdl_setAccumulator (f_Mdl_result (f_Mdl_load (f_Mdl_find T (25 : Int32)).2 (f_Mdl_is T (32 : Int32))).2 ((f_Mdl_accumulator (f_Mdl_load (f_Mdl_find T (25 : Int32)).2 (f_Mdl_is T (32 : Int32))).2) ||| (f_Mdl_load (f_Mdl_find T (25 : Int32)).2 (f_Mdl_is T (32 : Int32))).1) (f_Mdl_is T (32 : Int32))).2 (f_Mdl_result (f_Mdl_load (f_Mdl_find T (25 : Int32)).2 (f_Mdl_is T (32 : Int32))).2 ((f_Mdl_accumulator (f_Mdl_load (f_Mdl_find T (25 : Int32)).2 (f_Mdl_is T (32 : Int32))).2) ||| (f_Mdl_load (f_Mdl_find T (25 : Int32)).2 (f_Mdl_is T (32 : Int32))).1) (f_Mdl_is T (32 : Int32))).1)) := by
  have e : f_Mdl_arithmetic T (25 : Int32) = if (f_Mdl_find T (25 : Int32)).1 = (0 : Int32) then (((0 : Int32), (f_Mdl_find T (25 : Int32)).2)) else (((1 : Int32), (f_Mdl_setAccumulator (f_Mdl_result (f_Mdl_load (f_Mdl_find T (25 : Int32)).2 (f_Mdl_is T (32 : Int32))).2 ((f_Mdl_accumulator (f_Mdl_load (f_Mdl_find T (25 : Int32)).2 (f_Mdl_is T (32 : Int32))).2) ||| (f_Mdl_load (f_Mdl_find T (25 : Int32)).2 (f_Mdl_is T (32 : Int32))).1) (f_Mdl_is T (32 : Int32))).2 (f_Mdl_result (f_Mdl_load (f_Mdl_find T (25 : Int32)).2 (f_Mdl_is T (32 : Int32))).2 ((f_Mdl_accumulator (f_Mdl_load (f_Mdl_find T (25 : Int32)).2 (f_Mdl_is T (32 : Int32))).2) ||| (f_Mdl_load (f_Mdl_find T (25 : Int32)).2 (f_Mdl_is T (32 : Int32))).1) (f_Mdl_is T (32 : Int32))).1))) := rfl
  rw [e, fd1_25, if_neg (by decide : ¬ (1 : Int32) = 0)]
theorem o_19 {S T : Sc} (h : RR S T) : KO (f_Prc_useAccumulator S (25 : Int32)) (f_Mdl_arithmetic T (25 : Int32)) := by
  rw [ec_19, em_19]
  obtain ⟨f1, f2, f3, f4⟩ := sp_25 h
  obtain ⟨l1, l2, l3⟩ := s_load f2 f3 (WN_A h)
  have lf := (fr_rv (S := (f_Opd_place S 25).2) (c := (f_Opd_place S 25).1) (WN_A h)).trans f4
  have hw := WN_fr h lf
  exact ⟨rfl, rfl, s_setA2 l3 hw (by rw [acc_eq l3, l1])⟩
theorem ec_1A (S : Sc) : f_Prc_changeRegister S (26 : Int32) = ((1 : Int32), (f_Reg_loadA (f_Prc_changed S (7 : Int32) (f_Reg_a S) (f_Reg_wideA S)).2 (f_Prc_changed S (7 : Int32) (f_Reg_a S) (f_Reg_wideA S)).1)) := rfl
theorem em_1A (T : Sc) : f_Mdl_change T (26 : Int32) = ((1 : Int32), (f_Mdl_setAccumulator (f_Mdl_changed T (0 : Int32) (f_Mdl_accumulator T) (f_Mdl_is T (32 : Int32))).2 (f_Mdl_changed T (0 : Int32) (f_Mdl_accumulator T) (f_Mdl_is T (32 : Int32))).1)) := rfl
theorem o_1A {S T : Sc} (h : RR S T) : KO (f_Prc_changeRegister S (26 : Int32)) (f_Mdl_change T (26 : Int32)) := by
  rw [ec_1A, em_1A]
  obtain ⟨T2, Ex, q1, q2, q3, q4, -, -⟩ := sc_7 h (WN_A h) (a_rg S)
  rw [← acc_eq h, q1]
  exact ⟨rfl, rfl, s_setA3 q2 (WN_b h q4) (WN_A h) (wA_b q4) q3⟩
theorem ec_1B (S : Sc) : f_Prc_transfer S (27 : Int32) = ((1 : Int32), (pr S 3 (S.1 0))) := rfl
theorem em_1B (T : Sc) : f_Mdl_transfer T (27 : Int32) = ((1 : Int32), (pr T 3 (T.1 0))) := rfl
theorem o_1B {S T : Sc} (h : RR S T) : KO (f_Prc_transfer S (27 : Int32)) (f_Mdl_transfer T (27 : Int32)) := by
  rw [ec_1B, em_1B]
  exact ⟨rfl, rfl, R_3 h (RRe_0 h) (RRr_0 h)⟩
theorem ec_1D (S : Sc) : f_Prc_useAccumulator S (29 : Int32) = ((1 : Int32), (f_Reg_loadA (f_Bus_readValue (f_Opd_place S (29 : Int32)).2 (f_Opd_place S (29 : Int32)).1 (f_Reg_wideA S)).2 ((f_Reg_a (f_Bus_readValue (f_Opd_place S (29 : Int32)).2 (f_Opd_place S (29 : Int32)).1 (f_Reg_wideA S)).2) ||| (f_Bus_readValue (f_Opd_place S (29 : Int32)).2 (f_Opd_place S (29 : Int32)).1 (f_Reg_wideA S)).1))) := rfl
theorem em_1D (T : Sc) : f_Mdl_arithmetic T (29 : Int32) = ((1 : Int32), (f_Mdl_setAccumulator (f_Mdl_result (f_Mdl_load (f_Mdl_find T (29 : Int32)).2 (f_Mdl_is T (32 : Int32))).2 ((f_Mdl_accumulator (f_Mdl_load (f_Mdl_find T (29 : Int32)).2 (f_Mdl_is T (32 : Int32))).2) ||| (f_Mdl_load (f_Mdl_find T (29 : Int32)).2 (f_Mdl_is T (32 : Int32))).1) (f_Mdl_is T (32 : Int32))).2 (f_Mdl_result (f_Mdl_load (f_Mdl_find T (29 : Int32)).2 (f_Mdl_is T (32 : Int32))).2 ((f_Mdl_accumulator (f_Mdl_load (f_Mdl_find T (29 : Int32)).2 (f_Mdl_is T (32 : Int32))).2) ||| (f_Mdl_load (f_Mdl_find T (29 : Int32)).2 (f_Mdl_is T (32 : Int32))).1) (f_Mdl_is T (32 : Int32))).1)) := by
  have e : f_Mdl_arithmetic T (29 : Int32) = if (f_Mdl_find T (29 : Int32)).1 = (0 : Int32) then (((0 : Int32), (f_Mdl_find T (29 : Int32)).2)) else (((1 : Int32), (f_Mdl_setAccumulator (f_Mdl_result (f_Mdl_load (f_Mdl_find T (29 : Int32)).2 (f_Mdl_is T (32 : Int32))).2 ((f_Mdl_accumulator (f_Mdl_load (f_Mdl_find T (29 : Int32)).2 (f_Mdl_is T (32 : Int32))).2) ||| (f_Mdl_load (f_Mdl_find T (29 : Int32)).2 (f_Mdl_is T (32 : Int32))).1) (f_Mdl_is T (32 : Int32))).2 (f_Mdl_result (f_Mdl_load (f_Mdl_find T (29 : Int32)).2 (f_Mdl_is T (32 : Int32))).2 ((f_Mdl_accumulator (f_Mdl_load (f_Mdl_find T (29 : Int32)).2 (f_Mdl_is T (32 : Int32))).2) ||| (f_Mdl_load (f_Mdl_find T (29 : Int32)).2 (f_Mdl_is T (32 : Int32))).1) (f_Mdl_is T (32 : Int32))).1))) := rfl
  rw [e, fd1_29, if_neg (by decide : ¬ (1 : Int32) = 0)]
theorem o_1D {S T : Sc} (h : RR S T) : KO (f_Prc_useAccumulator S (29 : Int32)) (f_Mdl_arithmetic T (29 : Int32)) := by
  rw [ec_1D, em_1D]
  obtain ⟨f1, f2, f3, f4⟩ := sp_29 h
  obtain ⟨l1, l2, l3⟩ := s_load f2 f3 (WN_A h)
  have lf := (fr_rv (S := (f_Opd_place S 29).2) (c := (f_Opd_place S 29).1) (WN_A h)).trans f4
  have hw := WN_fr h lf
  exact ⟨rfl, rfl, s_setA2 l3 hw (by rw [acc_eq l3, l1])⟩
theorem ec_1F (S : Sc) : f_Prc_useAccumulator S (31 : Int32) = ((1 : Int32), (f_Reg_loadA (f_Bus_readValue (f_Opd_place S (31 : Int32)).2 (f_Opd_place S (31 : Int32)).1 (f_Reg_wideA S)).2 ((f_Reg_a (f_Bus_readValue (f_Opd_place S (31 : Int32)).2 (f_Opd_place S (31 : Int32)).1 (f_Reg_wideA S)).2) ||| (f_Bus_readValue (f_Opd_place S (31 : Int32)).2 (f_Opd_place S (31 : Int32)).1 (f_Reg_wideA S)).1))) := rfl
theorem em_1F (T : Sc) : f_Mdl_arithmetic T (31 : Int32) = ((1 : Int32), (f_Mdl_setAccumulator (f_Mdl_result (f_Mdl_load (f_Mdl_find T (31 : Int32)).2 (f_Mdl_is T (32 : Int32))).2 ((f_Mdl_accumulator (f_Mdl_load (f_Mdl_find T (31 : Int32)).2 (f_Mdl_is T (32 : Int32))).2) ||| (f_Mdl_load (f_Mdl_find T (31 : Int32)).2 (f_Mdl_is T (32 : Int32))).1) (f_Mdl_is T (32 : Int32))).2 (f_Mdl_result (f_Mdl_load (f_Mdl_find T (31 : Int32)).2 (f_Mdl_is T (32 : Int32))).2 ((f_Mdl_accumulator (f_Mdl_load (f_Mdl_find T (31 : Int32)).2 (f_Mdl_is T (32 : Int32))).2) ||| (f_Mdl_load (f_Mdl_find T (31 : Int32)).2 (f_Mdl_is T (32 : Int32))).1) (f_Mdl_is T (32 : Int32))).1)) := by
  have e : f_Mdl_arithmetic T (31 : Int32) = if (f_Mdl_find T (31 : Int32)).1 = (0 : Int32) then (((0 : Int32), (f_Mdl_find T (31 : Int32)).2)) else (((1 : Int32), (f_Mdl_setAccumulator (f_Mdl_result (f_Mdl_load (f_Mdl_find T (31 : Int32)).2 (f_Mdl_is T (32 : Int32))).2 ((f_Mdl_accumulator (f_Mdl_load (f_Mdl_find T (31 : Int32)).2 (f_Mdl_is T (32 : Int32))).2) ||| (f_Mdl_load (f_Mdl_find T (31 : Int32)).2 (f_Mdl_is T (32 : Int32))).1) (f_Mdl_is T (32 : Int32))).2 (f_Mdl_result (f_Mdl_load (f_Mdl_find T (31 : Int32)).2 (f_Mdl_is T (32 : Int32))).2 ((f_Mdl_accumulator (f_Mdl_load (f_Mdl_find T (31 : Int32)).2 (f_Mdl_is T (32 : Int32))).2) ||| (f_Mdl_load (f_Mdl_find T (31 : Int32)).2 (f_Mdl_is T (32 : Int32))).1) (f_Mdl_is T (32 : Int32))).1))) := rfl
  rw [e, fd1_31, if_neg (by decide : ¬ (1 : Int32) = 0)]
theorem o_1F {S T : Sc} (h : RR S T) : KO (f_Prc_useAccumulator S (31 : Int32)) (f_Mdl_arithmetic T (31 : Int32)) := by
  rw [ec_1F, em_1F]
  obtain ⟨f1, f2, f3, f4⟩ := sp_31 h
  obtain ⟨l1, l2, l3⟩ := s_load f2 f3 (WN_A h)
  have lf := (fr_rv (S := (f_Opd_place S 31).2) (c := (f_Opd_place S 31).1) (WN_A h)).trans f4
  have hw := WN_fr h lf
  exact ⟨rfl, rfl, s_setA2 l3 hw (by rw [acc_eq l3, l1])⟩
theorem ec_20 (S : Sc) : f_Prc_jump S (32 : Int32) = ((1 : Int32), (f_Reg_jumpTo (f_Stk_pushWord (f_Opd_nextWord S).2 ((((f_Opd_nextWord S).2.1 7) - (1 : Int32)) &&& (65535 : Int32))) (f_Opd_nextWord S).1)) := rfl
theorem em_20 (T : Sc) : f_Mdl_jump T (32 : Int32) = ((1 : Int32), (f_Mdl_call (f_Mdl_nextWord T).2 (f_Mdl_nextWord T).1)) := rfl
theorem o_20 {S T : Sc} (h : RR S T) : KO (f_Prc_jump S (32 : Int32)) (f_Mdl_jump T (32 : Int32)) := by
  rw [ec_20, em_20]
  obtain ⟨a1, a2, a3⟩ := s_nw h
  rw [call_eq]
  exact ⟨rfl, rfl, s_jump (s_pushW2 a3 (by rw [RRe_7 a3])) (by rw [a1])⟩
theorem ec_21 (S : Sc) : f_Prc_useAccumulator S (33 : Int32) = ((1 : Int32), (f_Reg_loadA (f_Bus_readValue (f_Opd_place S (1 : Int32)).2 (f_Opd_place S (1 : Int32)).1 (f_Reg_wideA S)).2 ((f_Reg_a (f_Bus_readValue (f_Opd_place S (1 : Int32)).2 (f_Opd_place S (1 : Int32)).1 (f_Reg_wideA S)).2) &&& (f_Bus_readValue (f_Opd_place S (1 : Int32)).2 (f_Opd_place S (1 : Int32)).1 (f_Reg_wideA S)).1))) := rfl
theorem em_21 (T : Sc) : f_Mdl_arithmetic T (33 : Int32) = ((1 : Int32), (f_Mdl_setAccumulator (f_Mdl_result (f_Mdl_load (f_Mdl_find T (1 : Int32)).2 (f_Mdl_is T (32 : Int32))).2 ((f_Mdl_accumulator (f_Mdl_load (f_Mdl_find T (1 : Int32)).2 (f_Mdl_is T (32 : Int32))).2) &&& (f_Mdl_load (f_Mdl_find T (1 : Int32)).2 (f_Mdl_is T (32 : Int32))).1) (f_Mdl_is T (32 : Int32))).2 (f_Mdl_result (f_Mdl_load (f_Mdl_find T (1 : Int32)).2 (f_Mdl_is T (32 : Int32))).2 ((f_Mdl_accumulator (f_Mdl_load (f_Mdl_find T (1 : Int32)).2 (f_Mdl_is T (32 : Int32))).2) &&& (f_Mdl_load (f_Mdl_find T (1 : Int32)).2 (f_Mdl_is T (32 : Int32))).1) (f_Mdl_is T (32 : Int32))).1)) := by
  have e : f_Mdl_arithmetic T (33 : Int32) = if (f_Mdl_find T (1 : Int32)).1 = (0 : Int32) then (((0 : Int32), (f_Mdl_find T (1 : Int32)).2)) else (((1 : Int32), (f_Mdl_setAccumulator (f_Mdl_result (f_Mdl_load (f_Mdl_find T (1 : Int32)).2 (f_Mdl_is T (32 : Int32))).2 ((f_Mdl_accumulator (f_Mdl_load (f_Mdl_find T (1 : Int32)).2 (f_Mdl_is T (32 : Int32))).2) &&& (f_Mdl_load (f_Mdl_find T (1 : Int32)).2 (f_Mdl_is T (32 : Int32))).1) (f_Mdl_is T (32 : Int32))).2 (f_Mdl_result (f_Mdl_load (f_Mdl_find T (1 : Int32)).2 (f_Mdl_is T (32 : Int32))).2 ((f_Mdl_accumulator (f_Mdl_load (f_Mdl_find T (1 : Int32)).2 (f_Mdl_is T (32 : Int32))).2) &&& (f_Mdl_load (f_Mdl_find T (1 : Int32)).2 (f_Mdl_is T (32 : Int32))).1) (f_Mdl_is T (32 : Int32))).1))) := rfl
  rw [e, fd1_1, if_neg (by decide : ¬ (1 : Int32) = 0)]
theorem o_21 {S T : Sc} (h : RR S T) : KO (f_Prc_useAccumulator S (33 : Int32)) (f_Mdl_arithmetic T (33 : Int32)) := by
  rw [ec_21, em_21]
  obtain ⟨f1, f2, f3, f4⟩ := sp_1 h
  obtain ⟨l1, l2, l3⟩ := s_load f2 f3 (WN_A h)
  have lf := (fr_rv (S := (f_Opd_place S 1).2) (c := (f_Opd_place S 1).1) (WN_A h)).trans f4
  have hw := WN_fr h lf
  exact ⟨rfl, rfl, s_setA2 l3 hw (by rw [acc_eq l3, l1])⟩
theorem ec_22 (S : Sc) : f_Prc_jump S (34 : Int32) = ((1 : Int32), (f_Reg_jumpLong (f_Stk_pushWord (f_Stk_pushByte (f_Opd_nextLong S).2 ((f_Opd_nextLong S).2.1 6)) ((((f_Stk_pushByte (f_Opd_nextLong S).2 ((f_Opd_nextLong S).2.1 6)).1 7) - (1 : Int32)) &&& (65535 : Int32))) (f_Opd_nextLong S).1)) := rfl
theorem em_22 (T : Sc) : f_Mdl_jump T (34 : Int32) = ((1 : Int32), (pr (f_Mdl_call (f_Mdl_push (f_Mdl_nextLong T).2 ((f_Mdl_nextLong T).2.1 7)) (f_Mdl_nextLong T).1) 7 (((f_Mdl_nextLong T).1 >>> ((16 : Int32) &&& 31))))) := rfl
theorem o_22 {S T : Sc} (h : RR S T) : KO (f_Prc_jump S (34 : Int32)) (f_Mdl_jump T (34 : Int32)) := by
  rw [ec_22, em_22]
  obtain ⟨a1, a2, a3⟩ := s_nl h
  have b := s_push (b := (f_Opd_nextLong S).2.1 6) (b2 := (f_Mdl_nextLong T).2.1 7) a3 (by rw [RRe_6 a3])
  have c := s_pushW2 (v := ((f_Stk_pushByte (f_Opd_nextLong S).2 ((f_Opd_nextLong S).2.1 6)).1 7 - 1) &&& 65535) (v2 := ((f_Mdl_push (f_Mdl_nextLong T).2 ((f_Mdl_nextLong T).2.1 7)).1 8 - 1) &&& 65535) b (by rw [RRe_7 b])
  rw [call_eq]
  exact ⟨rfl, rfl, R_87 c (by rw [a1]) (sh16_8 a2) (by rw [a1]) (m16 _)⟩
theorem ec_23 (S : Sc) : f_Prc_useAccumulator S (35 : Int32) = ((1 : Int32), (f_Reg_loadA (f_Bus_readValue (f_Opd_place S (3 : Int32)).2 (f_Opd_place S (3 : Int32)).1 (f_Reg_wideA S)).2 ((f_Reg_a (f_Bus_readValue (f_Opd_place S (3 : Int32)).2 (f_Opd_place S (3 : Int32)).1 (f_Reg_wideA S)).2) &&& (f_Bus_readValue (f_Opd_place S (3 : Int32)).2 (f_Opd_place S (3 : Int32)).1 (f_Reg_wideA S)).1))) := rfl
theorem em_23 (T : Sc) : f_Mdl_arithmetic T (35 : Int32) = ((1 : Int32), (f_Mdl_setAccumulator (f_Mdl_result (f_Mdl_load (f_Mdl_find T (3 : Int32)).2 (f_Mdl_is T (32 : Int32))).2 ((f_Mdl_accumulator (f_Mdl_load (f_Mdl_find T (3 : Int32)).2 (f_Mdl_is T (32 : Int32))).2) &&& (f_Mdl_load (f_Mdl_find T (3 : Int32)).2 (f_Mdl_is T (32 : Int32))).1) (f_Mdl_is T (32 : Int32))).2 (f_Mdl_result (f_Mdl_load (f_Mdl_find T (3 : Int32)).2 (f_Mdl_is T (32 : Int32))).2 ((f_Mdl_accumulator (f_Mdl_load (f_Mdl_find T (3 : Int32)).2 (f_Mdl_is T (32 : Int32))).2) &&& (f_Mdl_load (f_Mdl_find T (3 : Int32)).2 (f_Mdl_is T (32 : Int32))).1) (f_Mdl_is T (32 : Int32))).1)) := by
  have e : f_Mdl_arithmetic T (35 : Int32) = if (f_Mdl_find T (3 : Int32)).1 = (0 : Int32) then (((0 : Int32), (f_Mdl_find T (3 : Int32)).2)) else (((1 : Int32), (f_Mdl_setAccumulator (f_Mdl_result (f_Mdl_load (f_Mdl_find T (3 : Int32)).2 (f_Mdl_is T (32 : Int32))).2 ((f_Mdl_accumulator (f_Mdl_load (f_Mdl_find T (3 : Int32)).2 (f_Mdl_is T (32 : Int32))).2) &&& (f_Mdl_load (f_Mdl_find T (3 : Int32)).2 (f_Mdl_is T (32 : Int32))).1) (f_Mdl_is T (32 : Int32))).2 (f_Mdl_result (f_Mdl_load (f_Mdl_find T (3 : Int32)).2 (f_Mdl_is T (32 : Int32))).2 ((f_Mdl_accumulator (f_Mdl_load (f_Mdl_find T (3 : Int32)).2 (f_Mdl_is T (32 : Int32))).2) &&& (f_Mdl_load (f_Mdl_find T (3 : Int32)).2 (f_Mdl_is T (32 : Int32))).1) (f_Mdl_is T (32 : Int32))).1))) := rfl
  rw [e, fd1_3, if_neg (by decide : ¬ (1 : Int32) = 0)]
theorem o_23 {S T : Sc} (h : RR S T) : KO (f_Prc_useAccumulator S (35 : Int32)) (f_Mdl_arithmetic T (35 : Int32)) := by
  rw [ec_23, em_23]
  obtain ⟨f1, f2, f3, f4⟩ := sp_3 h
  obtain ⟨l1, l2, l3⟩ := s_load f2 f3 (WN_A h)
  have lf := (fr_rv (S := (f_Opd_place S 3).2) (c := (f_Opd_place S 3).1) (WN_A h)).trans f4
  have hw := WN_fr h lf
  exact ⟨rfl, rfl, s_setA2 l3 hw (by rw [acc_eq l3, l1])⟩
theorem ec_25 (S : Sc) : f_Prc_useAccumulator S (37 : Int32) = ((1 : Int32), (f_Reg_loadA (f_Bus_readValue (f_Opd_place S (5 : Int32)).2 (f_Opd_place S (5 : Int32)).1 (f_Reg_wideA S)).2 ((f_Reg_a (f_Bus_readValue (f_Opd_place S (5 : Int32)).2 (f_Opd_place S (5 : Int32)).1 (f_Reg_wideA S)).2) &&& (f_Bus_readValue (f_Opd_place S (5 : Int32)).2 (f_Opd_place S (5 : Int32)).1 (f_Reg_wideA S)).1))) := rfl
theorem em_25 (T : Sc) : f_Mdl_arithmetic T (37 : Int32) = ((1 : Int32), (f_Mdl_setAccumulator (f_Mdl_result (f_Mdl_load (f_Mdl_find T (5 : Int32)).2 (f_Mdl_is T (32 : Int32))).2 ((f_Mdl_accumulator (f_Mdl_load (f_Mdl_find T (5 : Int32)).2 (f_Mdl_is T (32 : Int32))).2) &&& (f_Mdl_load (f_Mdl_find T (5 : Int32)).2 (f_Mdl_is T (32 : Int32))).1) (f_Mdl_is T (32 : Int32))).2 (f_Mdl_result (f_Mdl_load (f_Mdl_find T (5 : Int32)).2 (f_Mdl_is T (32 : Int32))).2 ((f_Mdl_accumulator (f_Mdl_load (f_Mdl_find T (5 : Int32)).2 (f_Mdl_is T (32 : Int32))).2) &&& (f_Mdl_load (f_Mdl_find T (5 : Int32)).2 (f_Mdl_is T (32 : Int32))).1) (f_Mdl_is T (32 : Int32))).1)) := by
  have e : f_Mdl_arithmetic T (37 : Int32) = if (f_Mdl_find T (5 : Int32)).1 = (0 : Int32) then (((0 : Int32), (f_Mdl_find T (5 : Int32)).2)) else (((1 : Int32), (f_Mdl_setAccumulator (f_Mdl_result (f_Mdl_load (f_Mdl_find T (5 : Int32)).2 (f_Mdl_is T (32 : Int32))).2 ((f_Mdl_accumulator (f_Mdl_load (f_Mdl_find T (5 : Int32)).2 (f_Mdl_is T (32 : Int32))).2) &&& (f_Mdl_load (f_Mdl_find T (5 : Int32)).2 (f_Mdl_is T (32 : Int32))).1) (f_Mdl_is T (32 : Int32))).2 (f_Mdl_result (f_Mdl_load (f_Mdl_find T (5 : Int32)).2 (f_Mdl_is T (32 : Int32))).2 ((f_Mdl_accumulator (f_Mdl_load (f_Mdl_find T (5 : Int32)).2 (f_Mdl_is T (32 : Int32))).2) &&& (f_Mdl_load (f_Mdl_find T (5 : Int32)).2 (f_Mdl_is T (32 : Int32))).1) (f_Mdl_is T (32 : Int32))).1))) := rfl
  rw [e, fd1_5, if_neg (by decide : ¬ (1 : Int32) = 0)]
theorem o_25 {S T : Sc} (h : RR S T) : KO (f_Prc_useAccumulator S (37 : Int32)) (f_Mdl_arithmetic T (37 : Int32)) := by
  rw [ec_25, em_25]
  obtain ⟨f1, f2, f3, f4⟩ := sp_5 h
  obtain ⟨l1, l2, l3⟩ := s_load f2 f3 (WN_A h)
  have lf := (fr_rv (S := (f_Opd_place S 5).2) (c := (f_Opd_place S 5).1) (WN_A h)).trans f4
  have hw := WN_fr h lf
  exact ⟨rfl, rfl, s_setA2 l3 hw (by rw [acc_eq l3, l1])⟩
theorem ec_26 (S : Sc) : f_Prc_changeMemory S (38 : Int32) = ((1 : Int32), (f_Bus_writeValue (f_Reg_showResult (f_Prc_changed (f_Bus_readValue (f_Opd_place S (5 : Int32)).2 (f_Opd_place S (5 : Int32)).1 (f_Reg_wideA S)).2 (1 : Int32) (f_Bus_readValue (f_Opd_place S (5 : Int32)).2 (f_Opd_place S (5 : Int32)).1 (f_Reg_wideA S)).1 (f_Reg_wideA S)).2 (f_Prc_changed (f_Bus_readValue (f_Opd_place S (5 : Int32)).2 (f_Opd_place S (5 : Int32)).1 (f_Reg_wideA S)).2 (1 : Int32) (f_Bus_readValue (f_Opd_place S (5 : Int32)).2 (f_Opd_place S (5 : Int32)).1 (f_Reg_wideA S)).1 (f_Reg_wideA S)).1 (f_Reg_wideA S)) (f_Opd_place S (5 : Int32)).1 (f_Prc_changed (f_Bus_readValue (f_Opd_place S (5 : Int32)).2 (f_Opd_place S (5 : Int32)).1 (f_Reg_wideA S)).2 (1 : Int32) (f_Bus_readValue (f_Opd_place S (5 : Int32)).2 (f_Opd_place S (5 : Int32)).1 (f_Reg_wideA S)).1 (f_Reg_wideA S)).1 (f_Reg_wideA S))) := rfl
theorem em_26 (T : Sc) : f_Mdl_change T (38 : Int32) = ((1 : Int32), (f_Mdl_changeMemory T (3 : Int32) (0 : Int32))) := rfl
theorem o_26 {S T : Sc} (h : RR S T) : KO (f_Prc_changeMemory S (38 : Int32)) (f_Mdl_change T (38 : Int32)) := by
  rw [ec_26, em_26]
  exact ⟨rfl, rfl, s_cm h 5 0 (Or.inl ⟨rfl, rfl⟩) (cm0 T 3) (fun {S T : Sc} {v w n : Int32} => sc_1)⟩
theorem ec_27 (S : Sc) : f_Prc_useAccumulator S (39 : Int32) = ((1 : Int32), (f_Reg_loadA (f_Bus_readValue (f_Opd_place S (7 : Int32)).2 (f_Opd_place S (7 : Int32)).1 (f_Reg_wideA S)).2 ((f_Reg_a (f_Bus_readValue (f_Opd_place S (7 : Int32)).2 (f_Opd_place S (7 : Int32)).1 (f_Reg_wideA S)).2) &&& (f_Bus_readValue (f_Opd_place S (7 : Int32)).2 (f_Opd_place S (7 : Int32)).1 (f_Reg_wideA S)).1))) := rfl
theorem em_27 (T : Sc) : f_Mdl_arithmetic T (39 : Int32) = ((1 : Int32), (f_Mdl_setAccumulator (f_Mdl_result (f_Mdl_load (f_Mdl_find T (7 : Int32)).2 (f_Mdl_is T (32 : Int32))).2 ((f_Mdl_accumulator (f_Mdl_load (f_Mdl_find T (7 : Int32)).2 (f_Mdl_is T (32 : Int32))).2) &&& (f_Mdl_load (f_Mdl_find T (7 : Int32)).2 (f_Mdl_is T (32 : Int32))).1) (f_Mdl_is T (32 : Int32))).2 (f_Mdl_result (f_Mdl_load (f_Mdl_find T (7 : Int32)).2 (f_Mdl_is T (32 : Int32))).2 ((f_Mdl_accumulator (f_Mdl_load (f_Mdl_find T (7 : Int32)).2 (f_Mdl_is T (32 : Int32))).2) &&& (f_Mdl_load (f_Mdl_find T (7 : Int32)).2 (f_Mdl_is T (32 : Int32))).1) (f_Mdl_is T (32 : Int32))).1)) := by
  have e : f_Mdl_arithmetic T (39 : Int32) = if (f_Mdl_find T (7 : Int32)).1 = (0 : Int32) then (((0 : Int32), (f_Mdl_find T (7 : Int32)).2)) else (((1 : Int32), (f_Mdl_setAccumulator (f_Mdl_result (f_Mdl_load (f_Mdl_find T (7 : Int32)).2 (f_Mdl_is T (32 : Int32))).2 ((f_Mdl_accumulator (f_Mdl_load (f_Mdl_find T (7 : Int32)).2 (f_Mdl_is T (32 : Int32))).2) &&& (f_Mdl_load (f_Mdl_find T (7 : Int32)).2 (f_Mdl_is T (32 : Int32))).1) (f_Mdl_is T (32 : Int32))).2 (f_Mdl_result (f_Mdl_load (f_Mdl_find T (7 : Int32)).2 (f_Mdl_is T (32 : Int32))).2 ((f_Mdl_accumulator (f_Mdl_load (f_Mdl_find T (7 : Int32)).2 (f_Mdl_is T (32 : Int32))).2) &&& (f_Mdl_load (f_Mdl_find T (7 : Int32)).2 (f_Mdl_is T (32 : Int32))).1) (f_Mdl_is T (32 : Int32))).1))) := rfl
  rw [e, fd1_7, if_neg (by decide : ¬ (1 : Int32) = 0)]
theorem o_27 {S T : Sc} (h : RR S T) : KO (f_Prc_useAccumulator S (39 : Int32)) (f_Mdl_arithmetic T (39 : Int32)) := by
  rw [ec_27, em_27]
  obtain ⟨f1, f2, f3, f4⟩ := sp_7 h
  obtain ⟨l1, l2, l3⟩ := s_load f2 f3 (WN_A h)
  have lf := (fr_rv (S := (f_Opd_place S 7).2) (c := (f_Opd_place S 7).1) (WN_A h)).trans f4
  have hw := WN_fr h lf
  exact ⟨rfl, rfl, s_setA2 l3 hw (by rw [acc_eq l3, l1])⟩
theorem ec_28 (S : Sc) : f_Prc_pull S (40 : Int32) = ((1 : Int32), (f_Reg_replaceP (f_Stk_pullByte S).2 (f_Stk_pullByte S).1)) := rfl
theorem em_28 (T : Sc) : f_Mdl_stack T (40 : Int32) = ((1 : Int32), (f_Mdl_setFlags (f_Mdl_pull T).2 (f_Mdl_pull T).1)) := rfl
theorem o_28 {S T : Sc} (h : RR S T) : KO (f_Prc_pull S (40 : Int32)) (f_Mdl_stack T (40 : Int32)) := by
  rw [ec_28, em_28]
  obtain ⟨a1, a2, a3⟩ := s_pull h
  exact ⟨rfl, rfl, s_setP a3 (by rw [← a1]; exact a2.symm)⟩
theorem ec_29 (S : Sc) : f_Prc_useAccumulator S (41 : Int32) = ((1 : Int32), (f_Reg_loadA (f_Opd_nextValue S (f_Reg_wideA S)).2 ((f_Reg_a (f_Opd_nextValue S (f_Reg_wideA S)).2) &&& (f_Opd_nextValue S (f_Reg_wideA S)).1))) := rfl
theorem em_29 (T : Sc) : f_Mdl_arithmetic T (41 : Int32) = ((1 : Int32), (f_Mdl_setAccumulator (f_Mdl_result (f_Mdl_immediate T (f_Mdl_is T (32 : Int32))).2 ((f_Mdl_accumulator (f_Mdl_immediate T (f_Mdl_is T (32 : Int32))).2) &&& (f_Mdl_immediate T (f_Mdl_is T (32 : Int32))).1) (f_Mdl_is T (32 : Int32))).2 (f_Mdl_result (f_Mdl_immediate T (f_Mdl_is T (32 : Int32))).2 ((f_Mdl_accumulator (f_Mdl_immediate T (f_Mdl_is T (32 : Int32))).2) &&& (f_Mdl_immediate T (f_Mdl_is T (32 : Int32))).1) (f_Mdl_is T (32 : Int32))).1)) := rfl
theorem o_29 {S T : Sc} (h : RR S T) : KO (f_Prc_useAccumulator S (41 : Int32)) (f_Mdl_arithmetic T (41 : Int32)) := by
  rw [ec_29, em_29]
  obtain ⟨l1, l2, l3⟩ := s_nv h (WN_A h)
  have lf := fr_nv (S := S) (WN_A h)
  have hw := WN_fr h lf
  exact ⟨rfl, rfl, s_setA2 l3 hw (by rw [acc_eq l3, l1])⟩
theorem ec_2A (S : Sc) : f_Prc_changeRegister S (42 : Int32) = ((1 : Int32), (f_Reg_loadA (f_Prc_changed S (1 : Int32) (f_Reg_a S) (f_Reg_wideA S)).2 (f_Prc_changed S (1 : Int32) (f_Reg_a S) (f_Reg_wideA S)).1)) := rfl
theorem em_2A (T : Sc) : f_Mdl_change T (42 : Int32) = ((1 : Int32), (f_Mdl_setAccumulator (f_Mdl_changed T (3 : Int32) (f_Mdl_accumulator T) (f_Mdl_is T (32 : Int32))).2 (f_Mdl_changed T (3 : Int32) (f_Mdl_accumulator T) (f_Mdl_is T (32 : Int32))).1)) := rfl
theorem o_2A {S T : Sc} (h : RR S T) : KO (f_Prc_changeRegister S (42 : Int32)) (f_Mdl_change T (42 : Int32)) := by
  rw [ec_2A, em_2A]
  obtain ⟨T2, Ex, q1, q2, q3, q4, -, -⟩ := sc_1 h (WN_A h) (a_rg S)
  rw [← acc_eq h, q1]
  exact ⟨rfl, rfl, s_setA3 q2 (WN_b h q4) (WN_A h) (wA_b q4) q3⟩
theorem ec_2B (S : Sc) : f_Prc_pull S (43 : Int32) = ((1 : Int32), (f_Reg_loadD (f_Stk_pullWord S).2 (f_Stk_pullWord S).1)) := rfl
theorem em_2B (T : Sc) : f_Mdl_stack T (43 : Int32) = ((1 : Int32), (pr (f_Mdl_pullOf T (0 : Int32)).2 4 ((f_Mdl_pullOf T (0 : Int32)).1))) := rfl
theorem o_2B {S T : Sc} (h : RR S T) : KO (f_Prc_pull S (43 : Int32)) (f_Mdl_stack T (43 : Int32)) := by
  rw [ec_2B, em_2B]
  obtain ⟨a1, a2, a3⟩ := s_pullW h
  have k := s_loadD a3 a2
  rw [a1] at k
  rw [pf0, a1]
  exact ⟨rfl, rfl, k⟩
theorem ec_2D (S : Sc) : f_Prc_useAccumulator S (45 : Int32) = ((1 : Int32), (f_Reg_loadA (f_Bus_readValue (f_Opd_place S (13 : Int32)).2 (f_Opd_place S (13 : Int32)).1 (f_Reg_wideA S)).2 ((f_Reg_a (f_Bus_readValue (f_Opd_place S (13 : Int32)).2 (f_Opd_place S (13 : Int32)).1 (f_Reg_wideA S)).2) &&& (f_Bus_readValue (f_Opd_place S (13 : Int32)).2 (f_Opd_place S (13 : Int32)).1 (f_Reg_wideA S)).1))) := rfl
theorem em_2D (T : Sc) : f_Mdl_arithmetic T (45 : Int32) = ((1 : Int32), (f_Mdl_setAccumulator (f_Mdl_result (f_Mdl_load (f_Mdl_find T (13 : Int32)).2 (f_Mdl_is T (32 : Int32))).2 ((f_Mdl_accumulator (f_Mdl_load (f_Mdl_find T (13 : Int32)).2 (f_Mdl_is T (32 : Int32))).2) &&& (f_Mdl_load (f_Mdl_find T (13 : Int32)).2 (f_Mdl_is T (32 : Int32))).1) (f_Mdl_is T (32 : Int32))).2 (f_Mdl_result (f_Mdl_load (f_Mdl_find T (13 : Int32)).2 (f_Mdl_is T (32 : Int32))).2 ((f_Mdl_accumulator (f_Mdl_load (f_Mdl_find T (13 : Int32)).2 (f_Mdl_is T (32 : Int32))).2) &&& (f_Mdl_load (f_Mdl_find T (13 : Int32)).2 (f_Mdl_is T (32 : Int32))).1) (f_Mdl_is T (32 : Int32))).1)) := by
  have e : f_Mdl_arithmetic T (45 : Int32) = if (f_Mdl_find T (13 : Int32)).1 = (0 : Int32) then (((0 : Int32), (f_Mdl_find T (13 : Int32)).2)) else (((1 : Int32), (f_Mdl_setAccumulator (f_Mdl_result (f_Mdl_load (f_Mdl_find T (13 : Int32)).2 (f_Mdl_is T (32 : Int32))).2 ((f_Mdl_accumulator (f_Mdl_load (f_Mdl_find T (13 : Int32)).2 (f_Mdl_is T (32 : Int32))).2) &&& (f_Mdl_load (f_Mdl_find T (13 : Int32)).2 (f_Mdl_is T (32 : Int32))).1) (f_Mdl_is T (32 : Int32))).2 (f_Mdl_result (f_Mdl_load (f_Mdl_find T (13 : Int32)).2 (f_Mdl_is T (32 : Int32))).2 ((f_Mdl_accumulator (f_Mdl_load (f_Mdl_find T (13 : Int32)).2 (f_Mdl_is T (32 : Int32))).2) &&& (f_Mdl_load (f_Mdl_find T (13 : Int32)).2 (f_Mdl_is T (32 : Int32))).1) (f_Mdl_is T (32 : Int32))).1))) := rfl
  rw [e, fd1_13, if_neg (by decide : ¬ (1 : Int32) = 0)]
theorem o_2D {S T : Sc} (h : RR S T) : KO (f_Prc_useAccumulator S (45 : Int32)) (f_Mdl_arithmetic T (45 : Int32)) := by
  rw [ec_2D, em_2D]
  obtain ⟨f1, f2, f3, f4⟩ := sp_13 h
  obtain ⟨l1, l2, l3⟩ := s_load f2 f3 (WN_A h)
  have lf := (fr_rv (S := (f_Opd_place S 13).2) (c := (f_Opd_place S 13).1) (WN_A h)).trans f4
  have hw := WN_fr h lf
  exact ⟨rfl, rfl, s_setA2 l3 hw (by rw [acc_eq l3, l1])⟩
theorem ec_2F (S : Sc) : f_Prc_useAccumulator S (47 : Int32) = ((1 : Int32), (f_Reg_loadA (f_Bus_readValue (f_Opd_place S (15 : Int32)).2 (f_Opd_place S (15 : Int32)).1 (f_Reg_wideA S)).2 ((f_Reg_a (f_Bus_readValue (f_Opd_place S (15 : Int32)).2 (f_Opd_place S (15 : Int32)).1 (f_Reg_wideA S)).2) &&& (f_Bus_readValue (f_Opd_place S (15 : Int32)).2 (f_Opd_place S (15 : Int32)).1 (f_Reg_wideA S)).1))) := rfl
theorem em_2F (T : Sc) : f_Mdl_arithmetic T (47 : Int32) = ((1 : Int32), (f_Mdl_setAccumulator (f_Mdl_result (f_Mdl_load (f_Mdl_find T (15 : Int32)).2 (f_Mdl_is T (32 : Int32))).2 ((f_Mdl_accumulator (f_Mdl_load (f_Mdl_find T (15 : Int32)).2 (f_Mdl_is T (32 : Int32))).2) &&& (f_Mdl_load (f_Mdl_find T (15 : Int32)).2 (f_Mdl_is T (32 : Int32))).1) (f_Mdl_is T (32 : Int32))).2 (f_Mdl_result (f_Mdl_load (f_Mdl_find T (15 : Int32)).2 (f_Mdl_is T (32 : Int32))).2 ((f_Mdl_accumulator (f_Mdl_load (f_Mdl_find T (15 : Int32)).2 (f_Mdl_is T (32 : Int32))).2) &&& (f_Mdl_load (f_Mdl_find T (15 : Int32)).2 (f_Mdl_is T (32 : Int32))).1) (f_Mdl_is T (32 : Int32))).1)) := by
  have e : f_Mdl_arithmetic T (47 : Int32) = if (f_Mdl_find T (15 : Int32)).1 = (0 : Int32) then (((0 : Int32), (f_Mdl_find T (15 : Int32)).2)) else (((1 : Int32), (f_Mdl_setAccumulator (f_Mdl_result (f_Mdl_load (f_Mdl_find T (15 : Int32)).2 (f_Mdl_is T (32 : Int32))).2 ((f_Mdl_accumulator (f_Mdl_load (f_Mdl_find T (15 : Int32)).2 (f_Mdl_is T (32 : Int32))).2) &&& (f_Mdl_load (f_Mdl_find T (15 : Int32)).2 (f_Mdl_is T (32 : Int32))).1) (f_Mdl_is T (32 : Int32))).2 (f_Mdl_result (f_Mdl_load (f_Mdl_find T (15 : Int32)).2 (f_Mdl_is T (32 : Int32))).2 ((f_Mdl_accumulator (f_Mdl_load (f_Mdl_find T (15 : Int32)).2 (f_Mdl_is T (32 : Int32))).2) &&& (f_Mdl_load (f_Mdl_find T (15 : Int32)).2 (f_Mdl_is T (32 : Int32))).1) (f_Mdl_is T (32 : Int32))).1))) := rfl
  rw [e, fd1_15, if_neg (by decide : ¬ (1 : Int32) = 0)]
theorem o_2F {S T : Sc} (h : RR S T) : KO (f_Prc_useAccumulator S (47 : Int32)) (f_Mdl_arithmetic T (47 : Int32)) := by
  rw [ec_2F, em_2F]
  obtain ⟨f1, f2, f3, f4⟩ := sp_15 h
  obtain ⟨l1, l2, l3⟩ := s_load f2 f3 (WN_A h)
  have lf := (fr_rv (S := (f_Opd_place S 15).2) (c := (f_Opd_place S 15).1) (WN_A h)).trans f4
  have hw := WN_fr h lf
  exact ⟨rfl, rfl, s_setA2 l3 hw (by rw [acc_eq l3, l1])⟩
theorem ec_30 (S : Sc) : f_Prc_branch S (48 : Int32) = if (f_Reg_has (f_Opd_nextByte S).2 (bf ((0 : Int32)).toNatClampNeg)) = (1 : Int32) then (((1 : Int32), (f_Reg_jumpTo (f_Opd_nextByte S).2 (((f_Opd_nextByte S).2.1 7) + (((f_Opd_nextByte S).1).toInt8.toInt32))))) else (((1 : Int32), (f_Opd_nextByte S).2)) := rfl
theorem em_30 (T : Sc) : f_Mdl_jump T (48 : Int32) = ((1 : Int32), (f_Mdl_branch T (f_Mdl_is T (128 : Int32)))) := rfl
theorem o_30 {S T : Sc} (h : RR S T) : KO (f_Prc_branch S (48 : Int32)) (f_Mdl_jump T (48 : Int32)) := by
  rw [ec_30, em_30]
  have e : f_Reg_has (f_Opd_nextByte S).2 (128 : Int32) = f_Mdl_is T (128 : Int32) := has_n h (128 : Int32)
  have eb : bf (0 : Int32).toNatClampNeg = (128 : Int32) := rfl
  rw [eb, e]
  have b := s_br (x := f_Mdl_is T 128) h
  by_cases z : f_Mdl_is T (128 : Int32) = (1 : Int32)
  · rw [if_pos z]; exact ⟨rfl, rfl, b.1 (by rw [z]; decide)⟩
  · rw [if_neg z]; exact ⟨rfl, rfl, b.2 (is_01 z)⟩
theorem ec_31 (S : Sc) : f_Prc_useAccumulator S (49 : Int32) = ((1 : Int32), (f_Reg_loadA (f_Bus_readValue (f_Opd_place S (17 : Int32)).2 (f_Opd_place S (17 : Int32)).1 (f_Reg_wideA S)).2 ((f_Reg_a (f_Bus_readValue (f_Opd_place S (17 : Int32)).2 (f_Opd_place S (17 : Int32)).1 (f_Reg_wideA S)).2) &&& (f_Bus_readValue (f_Opd_place S (17 : Int32)).2 (f_Opd_place S (17 : Int32)).1 (f_Reg_wideA S)).1))) := rfl
theorem em_31 (T : Sc) : f_Mdl_arithmetic T (49 : Int32) = ((1 : Int32), (f_Mdl_setAccumulator (f_Mdl_result (f_Mdl_load (f_Mdl_find T (17 : Int32)).2 (f_Mdl_is T (32 : Int32))).2 ((f_Mdl_accumulator (f_Mdl_load (f_Mdl_find T (17 : Int32)).2 (f_Mdl_is T (32 : Int32))).2) &&& (f_Mdl_load (f_Mdl_find T (17 : Int32)).2 (f_Mdl_is T (32 : Int32))).1) (f_Mdl_is T (32 : Int32))).2 (f_Mdl_result (f_Mdl_load (f_Mdl_find T (17 : Int32)).2 (f_Mdl_is T (32 : Int32))).2 ((f_Mdl_accumulator (f_Mdl_load (f_Mdl_find T (17 : Int32)).2 (f_Mdl_is T (32 : Int32))).2) &&& (f_Mdl_load (f_Mdl_find T (17 : Int32)).2 (f_Mdl_is T (32 : Int32))).1) (f_Mdl_is T (32 : Int32))).1)) := by
  have e : f_Mdl_arithmetic T (49 : Int32) = if (f_Mdl_find T (17 : Int32)).1 = (0 : Int32) then (((0 : Int32), (f_Mdl_find T (17 : Int32)).2)) else (((1 : Int32), (f_Mdl_setAccumulator (f_Mdl_result (f_Mdl_load (f_Mdl_find T (17 : Int32)).2 (f_Mdl_is T (32 : Int32))).2 ((f_Mdl_accumulator (f_Mdl_load (f_Mdl_find T (17 : Int32)).2 (f_Mdl_is T (32 : Int32))).2) &&& (f_Mdl_load (f_Mdl_find T (17 : Int32)).2 (f_Mdl_is T (32 : Int32))).1) (f_Mdl_is T (32 : Int32))).2 (f_Mdl_result (f_Mdl_load (f_Mdl_find T (17 : Int32)).2 (f_Mdl_is T (32 : Int32))).2 ((f_Mdl_accumulator (f_Mdl_load (f_Mdl_find T (17 : Int32)).2 (f_Mdl_is T (32 : Int32))).2) &&& (f_Mdl_load (f_Mdl_find T (17 : Int32)).2 (f_Mdl_is T (32 : Int32))).1) (f_Mdl_is T (32 : Int32))).1))) := rfl
  rw [e, fd1_17, if_neg (by decide : ¬ (1 : Int32) = 0)]
theorem o_31 {S T : Sc} (h : RR S T) : KO (f_Prc_useAccumulator S (49 : Int32)) (f_Mdl_arithmetic T (49 : Int32)) := by
  rw [ec_31, em_31]
  obtain ⟨f1, f2, f3, f4⟩ := sp_17 h
  obtain ⟨l1, l2, l3⟩ := s_load f2 f3 (WN_A h)
  have lf := (fr_rv (S := (f_Opd_place S 17).2) (c := (f_Opd_place S 17).1) (WN_A h)).trans f4
  have hw := WN_fr h lf
  exact ⟨rfl, rfl, s_setA2 l3 hw (by rw [acc_eq l3, l1])⟩
theorem ec_32 (S : Sc) : f_Prc_useAccumulator S (50 : Int32) = ((1 : Int32), (f_Reg_loadA (f_Bus_readValue (f_Opd_place S (18 : Int32)).2 (f_Opd_place S (18 : Int32)).1 (f_Reg_wideA S)).2 ((f_Reg_a (f_Bus_readValue (f_Opd_place S (18 : Int32)).2 (f_Opd_place S (18 : Int32)).1 (f_Reg_wideA S)).2) &&& (f_Bus_readValue (f_Opd_place S (18 : Int32)).2 (f_Opd_place S (18 : Int32)).1 (f_Reg_wideA S)).1))) := rfl
theorem em_32 (T : Sc) : f_Mdl_arithmetic T (50 : Int32) = ((1 : Int32), (f_Mdl_setAccumulator (f_Mdl_result (f_Mdl_load (f_Mdl_find T (18 : Int32)).2 (f_Mdl_is T (32 : Int32))).2 ((f_Mdl_accumulator (f_Mdl_load (f_Mdl_find T (18 : Int32)).2 (f_Mdl_is T (32 : Int32))).2) &&& (f_Mdl_load (f_Mdl_find T (18 : Int32)).2 (f_Mdl_is T (32 : Int32))).1) (f_Mdl_is T (32 : Int32))).2 (f_Mdl_result (f_Mdl_load (f_Mdl_find T (18 : Int32)).2 (f_Mdl_is T (32 : Int32))).2 ((f_Mdl_accumulator (f_Mdl_load (f_Mdl_find T (18 : Int32)).2 (f_Mdl_is T (32 : Int32))).2) &&& (f_Mdl_load (f_Mdl_find T (18 : Int32)).2 (f_Mdl_is T (32 : Int32))).1) (f_Mdl_is T (32 : Int32))).1)) := by
  have e : f_Mdl_arithmetic T (50 : Int32) = if (f_Mdl_find T (18 : Int32)).1 = (0 : Int32) then (((0 : Int32), (f_Mdl_find T (18 : Int32)).2)) else (((1 : Int32), (f_Mdl_setAccumulator (f_Mdl_result (f_Mdl_load (f_Mdl_find T (18 : Int32)).2 (f_Mdl_is T (32 : Int32))).2 ((f_Mdl_accumulator (f_Mdl_load (f_Mdl_find T (18 : Int32)).2 (f_Mdl_is T (32 : Int32))).2) &&& (f_Mdl_load (f_Mdl_find T (18 : Int32)).2 (f_Mdl_is T (32 : Int32))).1) (f_Mdl_is T (32 : Int32))).2 (f_Mdl_result (f_Mdl_load (f_Mdl_find T (18 : Int32)).2 (f_Mdl_is T (32 : Int32))).2 ((f_Mdl_accumulator (f_Mdl_load (f_Mdl_find T (18 : Int32)).2 (f_Mdl_is T (32 : Int32))).2) &&& (f_Mdl_load (f_Mdl_find T (18 : Int32)).2 (f_Mdl_is T (32 : Int32))).1) (f_Mdl_is T (32 : Int32))).1))) := rfl
  rw [e, fd1_18, if_neg (by decide : ¬ (1 : Int32) = 0)]
theorem o_32 {S T : Sc} (h : RR S T) : KO (f_Prc_useAccumulator S (50 : Int32)) (f_Mdl_arithmetic T (50 : Int32)) := by
  rw [ec_32, em_32]
  obtain ⟨f1, f2, f3, f4⟩ := sp_18 h
  obtain ⟨l1, l2, l3⟩ := s_load f2 f3 (WN_A h)
  have lf := (fr_rv (S := (f_Opd_place S 18).2) (c := (f_Opd_place S 18).1) (WN_A h)).trans f4
  have hw := WN_fr h lf
  exact ⟨rfl, rfl, s_setA2 l3 hw (by rw [acc_eq l3, l1])⟩
theorem ec_33 (S : Sc) : f_Prc_useAccumulator S (51 : Int32) = ((1 : Int32), (f_Reg_loadA (f_Bus_readValue (f_Opd_place S (19 : Int32)).2 (f_Opd_place S (19 : Int32)).1 (f_Reg_wideA S)).2 ((f_Reg_a (f_Bus_readValue (f_Opd_place S (19 : Int32)).2 (f_Opd_place S (19 : Int32)).1 (f_Reg_wideA S)).2) &&& (f_Bus_readValue (f_Opd_place S (19 : Int32)).2 (f_Opd_place S (19 : Int32)).1 (f_Reg_wideA S)).1))) := rfl
theorem em_33 (T : Sc) : f_Mdl_arithmetic T (51 : Int32) = ((1 : Int32), (f_Mdl_setAccumulator (f_Mdl_result (f_Mdl_load (f_Mdl_find T (19 : Int32)).2 (f_Mdl_is T (32 : Int32))).2 ((f_Mdl_accumulator (f_Mdl_load (f_Mdl_find T (19 : Int32)).2 (f_Mdl_is T (32 : Int32))).2) &&& (f_Mdl_load (f_Mdl_find T (19 : Int32)).2 (f_Mdl_is T (32 : Int32))).1) (f_Mdl_is T (32 : Int32))).2 (f_Mdl_result (f_Mdl_load (f_Mdl_find T (19 : Int32)).2 (f_Mdl_is T (32 : Int32))).2 ((f_Mdl_accumulator (f_Mdl_load (f_Mdl_find T (19 : Int32)).2 (f_Mdl_is T (32 : Int32))).2) &&& (f_Mdl_load (f_Mdl_find T (19 : Int32)).2 (f_Mdl_is T (32 : Int32))).1) (f_Mdl_is T (32 : Int32))).1)) := by
  have e : f_Mdl_arithmetic T (51 : Int32) = if (f_Mdl_find T (19 : Int32)).1 = (0 : Int32) then (((0 : Int32), (f_Mdl_find T (19 : Int32)).2)) else (((1 : Int32), (f_Mdl_setAccumulator (f_Mdl_result (f_Mdl_load (f_Mdl_find T (19 : Int32)).2 (f_Mdl_is T (32 : Int32))).2 ((f_Mdl_accumulator (f_Mdl_load (f_Mdl_find T (19 : Int32)).2 (f_Mdl_is T (32 : Int32))).2) &&& (f_Mdl_load (f_Mdl_find T (19 : Int32)).2 (f_Mdl_is T (32 : Int32))).1) (f_Mdl_is T (32 : Int32))).2 (f_Mdl_result (f_Mdl_load (f_Mdl_find T (19 : Int32)).2 (f_Mdl_is T (32 : Int32))).2 ((f_Mdl_accumulator (f_Mdl_load (f_Mdl_find T (19 : Int32)).2 (f_Mdl_is T (32 : Int32))).2) &&& (f_Mdl_load (f_Mdl_find T (19 : Int32)).2 (f_Mdl_is T (32 : Int32))).1) (f_Mdl_is T (32 : Int32))).1))) := rfl
  rw [e, fd1_19, if_neg (by decide : ¬ (1 : Int32) = 0)]
theorem o_33 {S T : Sc} (h : RR S T) : KO (f_Prc_useAccumulator S (51 : Int32)) (f_Mdl_arithmetic T (51 : Int32)) := by
  rw [ec_33, em_33]
  obtain ⟨f1, f2, f3, f4⟩ := sp_19 h
  obtain ⟨l1, l2, l3⟩ := s_load f2 f3 (WN_A h)
  have lf := (fr_rv (S := (f_Opd_place S 19).2) (c := (f_Opd_place S 19).1) (WN_A h)).trans f4
  have hw := WN_fr h lf
  exact ⟨rfl, rfl, s_setA2 l3 hw (by rw [acc_eq l3, l1])⟩
theorem ec_35 (S : Sc) : f_Prc_useAccumulator S (53 : Int32) = ((1 : Int32), (f_Reg_loadA (f_Bus_readValue (f_Opd_place S (21 : Int32)).2 (f_Opd_place S (21 : Int32)).1 (f_Reg_wideA S)).2 ((f_Reg_a (f_Bus_readValue (f_Opd_place S (21 : Int32)).2 (f_Opd_place S (21 : Int32)).1 (f_Reg_wideA S)).2) &&& (f_Bus_readValue (f_Opd_place S (21 : Int32)).2 (f_Opd_place S (21 : Int32)).1 (f_Reg_wideA S)).1))) := rfl
theorem em_35 (T : Sc) : f_Mdl_arithmetic T (53 : Int32) = ((1 : Int32), (f_Mdl_setAccumulator (f_Mdl_result (f_Mdl_load (f_Mdl_find T (21 : Int32)).2 (f_Mdl_is T (32 : Int32))).2 ((f_Mdl_accumulator (f_Mdl_load (f_Mdl_find T (21 : Int32)).2 (f_Mdl_is T (32 : Int32))).2) &&& (f_Mdl_load (f_Mdl_find T (21 : Int32)).2 (f_Mdl_is T (32 : Int32))).1) (f_Mdl_is T (32 : Int32))).2 (f_Mdl_result (f_Mdl_load (f_Mdl_find T (21 : Int32)).2 (f_Mdl_is T (32 : Int32))).2 ((f_Mdl_accumulator (f_Mdl_load (f_Mdl_find T (21 : Int32)).2 (f_Mdl_is T (32 : Int32))).2) &&& (f_Mdl_load (f_Mdl_find T (21 : Int32)).2 (f_Mdl_is T (32 : Int32))).1) (f_Mdl_is T (32 : Int32))).1)) := by
  have e : f_Mdl_arithmetic T (53 : Int32) = if (f_Mdl_find T (21 : Int32)).1 = (0 : Int32) then (((0 : Int32), (f_Mdl_find T (21 : Int32)).2)) else (((1 : Int32), (f_Mdl_setAccumulator (f_Mdl_result (f_Mdl_load (f_Mdl_find T (21 : Int32)).2 (f_Mdl_is T (32 : Int32))).2 ((f_Mdl_accumulator (f_Mdl_load (f_Mdl_find T (21 : Int32)).2 (f_Mdl_is T (32 : Int32))).2) &&& (f_Mdl_load (f_Mdl_find T (21 : Int32)).2 (f_Mdl_is T (32 : Int32))).1) (f_Mdl_is T (32 : Int32))).2 (f_Mdl_result (f_Mdl_load (f_Mdl_find T (21 : Int32)).2 (f_Mdl_is T (32 : Int32))).2 ((f_Mdl_accumulator (f_Mdl_load (f_Mdl_find T (21 : Int32)).2 (f_Mdl_is T (32 : Int32))).2) &&& (f_Mdl_load (f_Mdl_find T (21 : Int32)).2 (f_Mdl_is T (32 : Int32))).1) (f_Mdl_is T (32 : Int32))).1))) := rfl
  rw [e, fd1_21, if_neg (by decide : ¬ (1 : Int32) = 0)]
theorem o_35 {S T : Sc} (h : RR S T) : KO (f_Prc_useAccumulator S (53 : Int32)) (f_Mdl_arithmetic T (53 : Int32)) := by
  rw [ec_35, em_35]
  obtain ⟨f1, f2, f3, f4⟩ := sp_21 h
  obtain ⟨l1, l2, l3⟩ := s_load f2 f3 (WN_A h)
  have lf := (fr_rv (S := (f_Opd_place S 21).2) (c := (f_Opd_place S 21).1) (WN_A h)).trans f4
  have hw := WN_fr h lf
  exact ⟨rfl, rfl, s_setA2 l3 hw (by rw [acc_eq l3, l1])⟩
theorem ec_37 (S : Sc) : f_Prc_useAccumulator S (55 : Int32) = ((1 : Int32), (f_Reg_loadA (f_Bus_readValue (f_Opd_place S (23 : Int32)).2 (f_Opd_place S (23 : Int32)).1 (f_Reg_wideA S)).2 ((f_Reg_a (f_Bus_readValue (f_Opd_place S (23 : Int32)).2 (f_Opd_place S (23 : Int32)).1 (f_Reg_wideA S)).2) &&& (f_Bus_readValue (f_Opd_place S (23 : Int32)).2 (f_Opd_place S (23 : Int32)).1 (f_Reg_wideA S)).1))) := rfl
theorem em_37 (T : Sc) : f_Mdl_arithmetic T (55 : Int32) = ((1 : Int32), (f_Mdl_setAccumulator (f_Mdl_result (f_Mdl_load (f_Mdl_find T (23 : Int32)).2 (f_Mdl_is T (32 : Int32))).2 ((f_Mdl_accumulator (f_Mdl_load (f_Mdl_find T (23 : Int32)).2 (f_Mdl_is T (32 : Int32))).2) &&& (f_Mdl_load (f_Mdl_find T (23 : Int32)).2 (f_Mdl_is T (32 : Int32))).1) (f_Mdl_is T (32 : Int32))).2 (f_Mdl_result (f_Mdl_load (f_Mdl_find T (23 : Int32)).2 (f_Mdl_is T (32 : Int32))).2 ((f_Mdl_accumulator (f_Mdl_load (f_Mdl_find T (23 : Int32)).2 (f_Mdl_is T (32 : Int32))).2) &&& (f_Mdl_load (f_Mdl_find T (23 : Int32)).2 (f_Mdl_is T (32 : Int32))).1) (f_Mdl_is T (32 : Int32))).1)) := by
  have e : f_Mdl_arithmetic T (55 : Int32) = if (f_Mdl_find T (23 : Int32)).1 = (0 : Int32) then (((0 : Int32), (f_Mdl_find T (23 : Int32)).2)) else (((1 : Int32), (f_Mdl_setAccumulator (f_Mdl_result (f_Mdl_load (f_Mdl_find T (23 : Int32)).2 (f_Mdl_is T (32 : Int32))).2 ((f_Mdl_accumulator (f_Mdl_load (f_Mdl_find T (23 : Int32)).2 (f_Mdl_is T (32 : Int32))).2) &&& (f_Mdl_load (f_Mdl_find T (23 : Int32)).2 (f_Mdl_is T (32 : Int32))).1) (f_Mdl_is T (32 : Int32))).2 (f_Mdl_result (f_Mdl_load (f_Mdl_find T (23 : Int32)).2 (f_Mdl_is T (32 : Int32))).2 ((f_Mdl_accumulator (f_Mdl_load (f_Mdl_find T (23 : Int32)).2 (f_Mdl_is T (32 : Int32))).2) &&& (f_Mdl_load (f_Mdl_find T (23 : Int32)).2 (f_Mdl_is T (32 : Int32))).1) (f_Mdl_is T (32 : Int32))).1))) := rfl
  rw [e, fd1_23, if_neg (by decide : ¬ (1 : Int32) = 0)]
theorem o_37 {S T : Sc} (h : RR S T) : KO (f_Prc_useAccumulator S (55 : Int32)) (f_Mdl_arithmetic T (55 : Int32)) := by
  rw [ec_37, em_37]
  obtain ⟨f1, f2, f3, f4⟩ := sp_23 h
  obtain ⟨l1, l2, l3⟩ := s_load f2 f3 (WN_A h)
  have lf := (fr_rv (S := (f_Opd_place S 23).2) (c := (f_Opd_place S 23).1) (WN_A h)).trans f4
  have hw := WN_fr h lf
  exact ⟨rfl, rfl, s_setA2 l3 hw (by rw [acc_eq l3, l1])⟩
theorem ec_38 (S : Sc) : f_Prc_changeFlags S (56 : Int32) = ((1 : Int32), (f_Reg_putFlag S (1 : Int32) (1 : Int32))) := rfl
theorem em_38 (T : Sc) : f_Mdl_other T (56 : Int32) = ((1 : Int32), (f_Mdl_flag T (1 : Int32) (1 : Int32))) := rfl
theorem o_38 {S T : Sc} (h : RR S T) : KO (f_Prc_changeFlags S (56 : Int32)) (f_Mdl_other T (56 : Int32)) := by
  rw [ec_38, em_38]
  exact ⟨rfl, rfl, s_flag h 1 1 (by decide)⟩
theorem ec_39 (S : Sc) : f_Prc_useAccumulator S (57 : Int32) = ((1 : Int32), (f_Reg_loadA (f_Bus_readValue (f_Opd_place S (25 : Int32)).2 (f_Opd_place S (25 : Int32)).1 (f_Reg_wideA S)).2 ((f_Reg_a (f_Bus_readValue (f_Opd_place S (25 : Int32)).2 (f_Opd_place S (25 : Int32)).1 (f_Reg_wideA S)).2) &&& (f_Bus_readValue (f_Opd_place S (25 : Int32)).2 (f_Opd_place S (25 : Int32)).1 (f_Reg_wideA S)).1))) := rfl
theorem em_39 (T : Sc) : f_Mdl_arithmetic T (57 : Int32) = ((1 : Int32), (f_Mdl_setAccumulator (f_Mdl_result (f_Mdl_load (f_Mdl_find T (25 : Int32)).2 (f_Mdl_is T (32 : Int32))).2 ((f_Mdl_accumulator (f_Mdl_load (f_Mdl_find T (25 : Int32)).2 (f_Mdl_is T (32 : Int32))).2) &&& (f_Mdl_load (f_Mdl_find T (25 : Int32)).2 (f_Mdl_is T (32 : Int32))).1) (f_Mdl_is T (32 : Int32))).2 (f_Mdl_result (f_Mdl_load (f_Mdl_find T (25 : Int32)).2 (f_Mdl_is T (32 : Int32))).2 ((f_Mdl_accumulator (f_Mdl_load (f_Mdl_find T (25 : Int32)).2 (f_Mdl_is T (32 : Int32))).2) &&& (f_Mdl_load (f_Mdl_find T (25 : Int32)).2 (f_Mdl_is T (32 : Int32))).1) (f_Mdl_is T (32 : Int32))).1)) := by
  have e : f_Mdl_arithmetic T (57 : Int32) = if (f_Mdl_find T (25 : Int32)).1 = (0 : Int32) then (((0 : Int32), (f_Mdl_find T (25 : Int32)).2)) else (((1 : Int32), (f_Mdl_setAccumulator (f_Mdl_result (f_Mdl_load (f_Mdl_find T (25 : Int32)).2 (f_Mdl_is T (32 : Int32))).2 ((f_Mdl_accumulator (f_Mdl_load (f_Mdl_find T (25 : Int32)).2 (f_Mdl_is T (32 : Int32))).2) &&& (f_Mdl_load (f_Mdl_find T (25 : Int32)).2 (f_Mdl_is T (32 : Int32))).1) (f_Mdl_is T (32 : Int32))).2 (f_Mdl_result (f_Mdl_load (f_Mdl_find T (25 : Int32)).2 (f_Mdl_is T (32 : Int32))).2 ((f_Mdl_accumulator (f_Mdl_load (f_Mdl_find T (25 : Int32)).2 (f_Mdl_is T (32 : Int32))).2) &&& (f_Mdl_load (f_Mdl_find T (25 : Int32)).2 (f_Mdl_is T (32 : Int32))).1) (f_Mdl_is T (32 : Int32))).1))) := rfl
  rw [e, fd1_25, if_neg (by decide : ¬ (1 : Int32) = 0)]
theorem o_39 {S T : Sc} (h : RR S T) : KO (f_Prc_useAccumulator S (57 : Int32)) (f_Mdl_arithmetic T (57 : Int32)) := by
  rw [ec_39, em_39]
  obtain ⟨f1, f2, f3, f4⟩ := sp_25 h
  obtain ⟨l1, l2, l3⟩ := s_load f2 f3 (WN_A h)
  have lf := (fr_rv (S := (f_Opd_place S 25).2) (c := (f_Opd_place S 25).1) (WN_A h)).trans f4
  have hw := WN_fr h lf
  exact ⟨rfl, rfl, s_setA2 l3 hw (by rw [acc_eq l3, l1])⟩
theorem ec_3A (S : Sc) : f_Prc_changeRegister S (58 : Int32) = ((1 : Int32), (f_Reg_loadA (f_Prc_changed S (6 : Int32) (f_Reg_a S) (f_Reg_wideA S)).2 (f_Prc_changed S (6 : Int32) (f_Reg_a S) (f_Reg_wideA S)).1)) := rfl
theorem em_3A (T : Sc) : f_Mdl_change T (58 : Int32) = ((1 : Int32), (f_Mdl_setAccumulator (f_Mdl_changed T (1 : Int32) (f_Mdl_accumulator T) (f_Mdl_is T (32 : Int32))).2 (f_Mdl_changed T (1 : Int32) (f_Mdl_accumulator T) (f_Mdl_is T (32 : Int32))).1)) := rfl
theorem o_3A {S T : Sc} (h : RR S T) : KO (f_Prc_changeRegister S (58 : Int32)) (f_Mdl_change T (58 : Int32)) := by
  rw [ec_3A, em_3A]
  obtain ⟨T2, Ex, q1, q2, q3, q4, -, -⟩ := sc_6 h (WN_A h) (a_rg S)
  rw [← acc_eq h, q1]
  exact ⟨rfl, rfl, s_setA3 q2 (WN_b h q4) (WN_A h) (wA_b q4) q3⟩
theorem ec_3B (S : Sc) : f_Prc_transfer S (59 : Int32) = ((1 : Int32), (f_Reg_loadC S (S.1 3))) := rfl
theorem em_3B (T : Sc) : f_Mdl_transfer T (59 : Int32) = ((1 : Int32), (pr (f_Mdl_result T (T.1 3) (0 : Int32)).2 0 ((f_Mdl_result T (T.1 3) (0 : Int32)).1))) := rfl
theorem o_3B {S T : Sc} (h : RR S T) : KO (f_Prc_transfer S (59 : Int32)) (f_Mdl_transfer T (59 : Int32)) := by
  rw [ec_3B, em_3B]
  have k := s_loadC h (RRr_3 h)
  rw [RRe_3 h] at k
  refine ⟨rfl, rfl, ?_⟩
  show RR (f_Reg_loadC S (S.1 3)) _
  rw [RRe_3 h]; exact k
theorem ec_3D (S : Sc) : f_Prc_useAccumulator S (61 : Int32) = ((1 : Int32), (f_Reg_loadA (f_Bus_readValue (f_Opd_place S (29 : Int32)).2 (f_Opd_place S (29 : Int32)).1 (f_Reg_wideA S)).2 ((f_Reg_a (f_Bus_readValue (f_Opd_place S (29 : Int32)).2 (f_Opd_place S (29 : Int32)).1 (f_Reg_wideA S)).2) &&& (f_Bus_readValue (f_Opd_place S (29 : Int32)).2 (f_Opd_place S (29 : Int32)).1 (f_Reg_wideA S)).1))) := rfl
theorem em_3D (T : Sc) : f_Mdl_arithmetic T (61 : Int32) = ((1 : Int32), (f_Mdl_setAccumulator (f_Mdl_result (f_Mdl_load (f_Mdl_find T (29 : Int32)).2 (f_Mdl_is T (32 : Int32))).2 ((f_Mdl_accumulator (f_Mdl_load (f_Mdl_find T (29 : Int32)).2 (f_Mdl_is T (32 : Int32))).2) &&& (f_Mdl_load (f_Mdl_find T (29 : Int32)).2 (f_Mdl_is T (32 : Int32))).1) (f_Mdl_is T (32 : Int32))).2 (f_Mdl_result (f_Mdl_load (f_Mdl_find T (29 : Int32)).2 (f_Mdl_is T (32 : Int32))).2 ((f_Mdl_accumulator (f_Mdl_load (f_Mdl_find T (29 : Int32)).2 (f_Mdl_is T (32 : Int32))).2) &&& (f_Mdl_load (f_Mdl_find T (29 : Int32)).2 (f_Mdl_is T (32 : Int32))).1) (f_Mdl_is T (32 : Int32))).1)) := by
  have e : f_Mdl_arithmetic T (61 : Int32) = if (f_Mdl_find T (29 : Int32)).1 = (0 : Int32) then (((0 : Int32), (f_Mdl_find T (29 : Int32)).2)) else (((1 : Int32), (f_Mdl_setAccumulator (f_Mdl_result (f_Mdl_load (f_Mdl_find T (29 : Int32)).2 (f_Mdl_is T (32 : Int32))).2 ((f_Mdl_accumulator (f_Mdl_load (f_Mdl_find T (29 : Int32)).2 (f_Mdl_is T (32 : Int32))).2) &&& (f_Mdl_load (f_Mdl_find T (29 : Int32)).2 (f_Mdl_is T (32 : Int32))).1) (f_Mdl_is T (32 : Int32))).2 (f_Mdl_result (f_Mdl_load (f_Mdl_find T (29 : Int32)).2 (f_Mdl_is T (32 : Int32))).2 ((f_Mdl_accumulator (f_Mdl_load (f_Mdl_find T (29 : Int32)).2 (f_Mdl_is T (32 : Int32))).2) &&& (f_Mdl_load (f_Mdl_find T (29 : Int32)).2 (f_Mdl_is T (32 : Int32))).1) (f_Mdl_is T (32 : Int32))).1))) := rfl
  rw [e, fd1_29, if_neg (by decide : ¬ (1 : Int32) = 0)]
theorem o_3D {S T : Sc} (h : RR S T) : KO (f_Prc_useAccumulator S (61 : Int32)) (f_Mdl_arithmetic T (61 : Int32)) := by
  rw [ec_3D, em_3D]
  obtain ⟨f1, f2, f3, f4⟩ := sp_29 h
  obtain ⟨l1, l2, l3⟩ := s_load f2 f3 (WN_A h)
  have lf := (fr_rv (S := (f_Opd_place S 29).2) (c := (f_Opd_place S 29).1) (WN_A h)).trans f4
  have hw := WN_fr h lf
  exact ⟨rfl, rfl, s_setA2 l3 hw (by rw [acc_eq l3, l1])⟩
theorem ec_3F (S : Sc) : f_Prc_useAccumulator S (63 : Int32) = ((1 : Int32), (f_Reg_loadA (f_Bus_readValue (f_Opd_place S (31 : Int32)).2 (f_Opd_place S (31 : Int32)).1 (f_Reg_wideA S)).2 ((f_Reg_a (f_Bus_readValue (f_Opd_place S (31 : Int32)).2 (f_Opd_place S (31 : Int32)).1 (f_Reg_wideA S)).2) &&& (f_Bus_readValue (f_Opd_place S (31 : Int32)).2 (f_Opd_place S (31 : Int32)).1 (f_Reg_wideA S)).1))) := rfl
theorem em_3F (T : Sc) : f_Mdl_arithmetic T (63 : Int32) = ((1 : Int32), (f_Mdl_setAccumulator (f_Mdl_result (f_Mdl_load (f_Mdl_find T (31 : Int32)).2 (f_Mdl_is T (32 : Int32))).2 ((f_Mdl_accumulator (f_Mdl_load (f_Mdl_find T (31 : Int32)).2 (f_Mdl_is T (32 : Int32))).2) &&& (f_Mdl_load (f_Mdl_find T (31 : Int32)).2 (f_Mdl_is T (32 : Int32))).1) (f_Mdl_is T (32 : Int32))).2 (f_Mdl_result (f_Mdl_load (f_Mdl_find T (31 : Int32)).2 (f_Mdl_is T (32 : Int32))).2 ((f_Mdl_accumulator (f_Mdl_load (f_Mdl_find T (31 : Int32)).2 (f_Mdl_is T (32 : Int32))).2) &&& (f_Mdl_load (f_Mdl_find T (31 : Int32)).2 (f_Mdl_is T (32 : Int32))).1) (f_Mdl_is T (32 : Int32))).1)) := by
  have e : f_Mdl_arithmetic T (63 : Int32) = if (f_Mdl_find T (31 : Int32)).1 = (0 : Int32) then (((0 : Int32), (f_Mdl_find T (31 : Int32)).2)) else (((1 : Int32), (f_Mdl_setAccumulator (f_Mdl_result (f_Mdl_load (f_Mdl_find T (31 : Int32)).2 (f_Mdl_is T (32 : Int32))).2 ((f_Mdl_accumulator (f_Mdl_load (f_Mdl_find T (31 : Int32)).2 (f_Mdl_is T (32 : Int32))).2) &&& (f_Mdl_load (f_Mdl_find T (31 : Int32)).2 (f_Mdl_is T (32 : Int32))).1) (f_Mdl_is T (32 : Int32))).2 (f_Mdl_result (f_Mdl_load (f_Mdl_find T (31 : Int32)).2 (f_Mdl_is T (32 : Int32))).2 ((f_Mdl_accumulator (f_Mdl_load (f_Mdl_find T (31 : Int32)).2 (f_Mdl_is T (32 : Int32))).2) &&& (f_Mdl_load (f_Mdl_find T (31 : Int32)).2 (f_Mdl_is T (32 : Int32))).1) (f_Mdl_is T (32 : Int32))).1))) := rfl
  rw [e, fd1_31, if_neg (by decide : ¬ (1 : Int32) = 0)]
theorem o_3F {S T : Sc} (h : RR S T) : KO (f_Prc_useAccumulator S (63 : Int32)) (f_Mdl_arithmetic T (63 : Int32)) := by
  rw [ec_3F, em_3F]
  obtain ⟨f1, f2, f3, f4⟩ := sp_31 h
  obtain ⟨l1, l2, l3⟩ := s_load f2 f3 (WN_A h)
  have lf := (fr_rv (S := (f_Opd_place S 31).2) (c := (f_Opd_place S 31).1) (WN_A h)).trans f4
  have hw := WN_fr h lf
  exact ⟨rfl, rfl, s_setA2 l3 hw (by rw [acc_eq l3, l1])⟩
theorem ec_40 (S : Sc) : f_Prc_jump S (64 : Int32) = ((1 : Int32), (pr (f_Stk_pullByte (f_Reg_jumpTo (f_Stk_pullWord (f_Reg_replaceP (f_Stk_pullByte S).2 (f_Stk_pullByte S).1)).2 (f_Stk_pullWord (f_Reg_replaceP (f_Stk_pullByte S).2 (f_Stk_pullByte S).1)).1)).2 6 ((f_Stk_pullByte (f_Reg_jumpTo (f_Stk_pullWord (f_Reg_replaceP (f_Stk_pullByte S).2 (f_Stk_pullByte S).1)).2 (f_Stk_pullWord (f_Reg_replaceP (f_Stk_pullByte S).2 (f_Stk_pullByte S).1)).1)).1))) := rfl
theorem em_40 (T : Sc) : f_Mdl_jump T (64 : Int32) = ((1 : Int32), (pr (f_Mdl_pull (pr (f_Mdl_pullWord (f_Mdl_setFlags (f_Mdl_pull T).2 (f_Mdl_pull T).1)).2 8 ((f_Mdl_pullWord (f_Mdl_setFlags (f_Mdl_pull T).2 (f_Mdl_pull T).1)).1))).2 7 ((f_Mdl_pull (pr (f_Mdl_pullWord (f_Mdl_setFlags (f_Mdl_pull T).2 (f_Mdl_pull T).1)).2 8 ((f_Mdl_pullWord (f_Mdl_setFlags (f_Mdl_pull T).2 (f_Mdl_pull T).1)).1))).1))) := rfl
theorem o_40 {S T : Sc} (h : RR S T) : KO (f_Prc_jump S (64 : Int32)) (f_Mdl_jump T (64 : Int32)) := by
  rw [ec_40, em_40]
  obtain ⟨a1, a2, a3⟩ := s_pull h
  have b := s_setP (v := (f_Stk_pullByte S).1) (v2 := (f_Mdl_pull T).1) a3 (by rw [← a1]; exact a2.symm)
  obtain ⟨c1, c2, c3⟩ := s_pullW b
  have d := s_jump (v := (f_Stk_pullWord (f_Reg_replaceP (f_Stk_pullByte S).2 (f_Stk_pullByte S).1)).1) (v2 := (f_Mdl_pullWord (f_Mdl_setFlags (f_Mdl_pull T).2 (f_Mdl_pull T).1)).1) c3 (c2.trans c1)
  obtain ⟨e1, e2, e3⟩ := s_pull d
  exact ⟨rfl, rfl, R_6 e3 e1 e2⟩
theorem ec_41 (S : Sc) : f_Prc_useAccumulator S (65 : Int32) = ((1 : Int32), (f_Reg_loadA (f_Bus_readValue (f_Opd_place S (1 : Int32)).2 (f_Opd_place S (1 : Int32)).1 (f_Reg_wideA S)).2 ((f_Reg_a (f_Bus_readValue (f_Opd_place S (1 : Int32)).2 (f_Opd_place S (1 : Int32)).1 (f_Reg_wideA S)).2) ^^^ (f_Bus_readValue (f_Opd_place S (1 : Int32)).2 (f_Opd_place S (1 : Int32)).1 (f_Reg_wideA S)).1))) := rfl
theorem em_41 (T : Sc) : f_Mdl_arithmetic T (65 : Int32) = ((1 : Int32), (f_Mdl_setAccumulator (f_Mdl_result (f_Mdl_load (f_Mdl_find T (1 : Int32)).2 (f_Mdl_is T (32 : Int32))).2 ((f_Mdl_accumulator (f_Mdl_load (f_Mdl_find T (1 : Int32)).2 (f_Mdl_is T (32 : Int32))).2) ^^^ (f_Mdl_load (f_Mdl_find T (1 : Int32)).2 (f_Mdl_is T (32 : Int32))).1) (f_Mdl_is T (32 : Int32))).2 (f_Mdl_result (f_Mdl_load (f_Mdl_find T (1 : Int32)).2 (f_Mdl_is T (32 : Int32))).2 ((f_Mdl_accumulator (f_Mdl_load (f_Mdl_find T (1 : Int32)).2 (f_Mdl_is T (32 : Int32))).2) ^^^ (f_Mdl_load (f_Mdl_find T (1 : Int32)).2 (f_Mdl_is T (32 : Int32))).1) (f_Mdl_is T (32 : Int32))).1)) := by
  have e : f_Mdl_arithmetic T (65 : Int32) = if (f_Mdl_find T (1 : Int32)).1 = (0 : Int32) then (((0 : Int32), (f_Mdl_find T (1 : Int32)).2)) else (((1 : Int32), (f_Mdl_setAccumulator (f_Mdl_result (f_Mdl_load (f_Mdl_find T (1 : Int32)).2 (f_Mdl_is T (32 : Int32))).2 ((f_Mdl_accumulator (f_Mdl_load (f_Mdl_find T (1 : Int32)).2 (f_Mdl_is T (32 : Int32))).2) ^^^ (f_Mdl_load (f_Mdl_find T (1 : Int32)).2 (f_Mdl_is T (32 : Int32))).1) (f_Mdl_is T (32 : Int32))).2 (f_Mdl_result (f_Mdl_load (f_Mdl_find T (1 : Int32)).2 (f_Mdl_is T (32 : Int32))).2 ((f_Mdl_accumulator (f_Mdl_load (f_Mdl_find T (1 : Int32)).2 (f_Mdl_is T (32 : Int32))).2) ^^^ (f_Mdl_load (f_Mdl_find T (1 : Int32)).2 (f_Mdl_is T (32 : Int32))).1) (f_Mdl_is T (32 : Int32))).1))) := rfl
  rw [e, fd1_1, if_neg (by decide : ¬ (1 : Int32) = 0)]
theorem o_41 {S T : Sc} (h : RR S T) : KO (f_Prc_useAccumulator S (65 : Int32)) (f_Mdl_arithmetic T (65 : Int32)) := by
  rw [ec_41, em_41]
  obtain ⟨f1, f2, f3, f4⟩ := sp_1 h
  obtain ⟨l1, l2, l3⟩ := s_load f2 f3 (WN_A h)
  have lf := (fr_rv (S := (f_Opd_place S 1).2) (c := (f_Opd_place S 1).1) (WN_A h)).trans f4
  have hw := WN_fr h lf
  exact ⟨rfl, rfl, s_setA2 l3 hw (by rw [acc_eq l3, l1])⟩
theorem ec_43 (S : Sc) : f_Prc_useAccumulator S (67 : Int32) = ((1 : Int32), (f_Reg_loadA (f_Bus_readValue (f_Opd_place S (3 : Int32)).2 (f_Opd_place S (3 : Int32)).1 (f_Reg_wideA S)).2 ((f_Reg_a (f_Bus_readValue (f_Opd_place S (3 : Int32)).2 (f_Opd_place S (3 : Int32)).1 (f_Reg_wideA S)).2) ^^^ (f_Bus_readValue (f_Opd_place S (3 : Int32)).2 (f_Opd_place S (3 : Int32)).1 (f_Reg_wideA S)).1))) := rfl
theorem em_43 (T : Sc) : f_Mdl_arithmetic T (67 : Int32) = ((1 : Int32), (f_Mdl_setAccumulator (f_Mdl_result (f_Mdl_load (f_Mdl_find T (3 : Int32)).2 (f_Mdl_is T (32 : Int32))).2 ((f_Mdl_accumulator (f_Mdl_load (f_Mdl_find T (3 : Int32)).2 (f_Mdl_is T (32 : Int32))).2) ^^^ (f_Mdl_load (f_Mdl_find T (3 : Int32)).2 (f_Mdl_is T (32 : Int32))).1) (f_Mdl_is T (32 : Int32))).2 (f_Mdl_result (f_Mdl_load (f_Mdl_find T (3 : Int32)).2 (f_Mdl_is T (32 : Int32))).2 ((f_Mdl_accumulator (f_Mdl_load (f_Mdl_find T (3 : Int32)).2 (f_Mdl_is T (32 : Int32))).2) ^^^ (f_Mdl_load (f_Mdl_find T (3 : Int32)).2 (f_Mdl_is T (32 : Int32))).1) (f_Mdl_is T (32 : Int32))).1)) := by
  have e : f_Mdl_arithmetic T (67 : Int32) = if (f_Mdl_find T (3 : Int32)).1 = (0 : Int32) then (((0 : Int32), (f_Mdl_find T (3 : Int32)).2)) else (((1 : Int32), (f_Mdl_setAccumulator (f_Mdl_result (f_Mdl_load (f_Mdl_find T (3 : Int32)).2 (f_Mdl_is T (32 : Int32))).2 ((f_Mdl_accumulator (f_Mdl_load (f_Mdl_find T (3 : Int32)).2 (f_Mdl_is T (32 : Int32))).2) ^^^ (f_Mdl_load (f_Mdl_find T (3 : Int32)).2 (f_Mdl_is T (32 : Int32))).1) (f_Mdl_is T (32 : Int32))).2 (f_Mdl_result (f_Mdl_load (f_Mdl_find T (3 : Int32)).2 (f_Mdl_is T (32 : Int32))).2 ((f_Mdl_accumulator (f_Mdl_load (f_Mdl_find T (3 : Int32)).2 (f_Mdl_is T (32 : Int32))).2) ^^^ (f_Mdl_load (f_Mdl_find T (3 : Int32)).2 (f_Mdl_is T (32 : Int32))).1) (f_Mdl_is T (32 : Int32))).1))) := rfl
  rw [e, fd1_3, if_neg (by decide : ¬ (1 : Int32) = 0)]
theorem o_43 {S T : Sc} (h : RR S T) : KO (f_Prc_useAccumulator S (67 : Int32)) (f_Mdl_arithmetic T (67 : Int32)) := by
  rw [ec_43, em_43]
  obtain ⟨f1, f2, f3, f4⟩ := sp_3 h
  obtain ⟨l1, l2, l3⟩ := s_load f2 f3 (WN_A h)
  have lf := (fr_rv (S := (f_Opd_place S 3).2) (c := (f_Opd_place S 3).1) (WN_A h)).trans f4
  have hw := WN_fr h lf
  exact ⟨rfl, rfl, s_setA2 l3 hw (by rw [acc_eq l3, l1])⟩
theorem ec_44 (S : Sc) : f_Prc_moveBlock S (68 : Int32) = if (mvA S).1 0 = (0 : Int32) then (((1 : Int32), (pr (pr (pr (mvA S) 1 (((((mvA S).1 1) + (-1 : Int32)) &&& (f_Reg_indexMask (mvA S))))) 2 (((((mvA S).1 2) + (-1 : Int32)) &&& (f_Reg_indexMask (pr (mvA S) 1 (((((mvA S).1 1) + (-1 : Int32)) &&& (f_Reg_indexMask (mvA S))))))))) 0 (((((mvA S).1 0) - (1 : Int32)) &&& (65535 : Int32)))))) else (((1 : Int32), (pr (f_Reg_jumpTo (pr (pr (mvA S) 1 (((((mvA S).1 1) + (-1 : Int32)) &&& (f_Reg_indexMask (mvA S))))) 2 (((((mvA S).1 2) + (-1 : Int32)) &&& (f_Reg_indexMask (pr (mvA S) 1 (((((mvA S).1 1) + (-1 : Int32)) &&& (f_Reg_indexMask (mvA S))))))))) ((S.1 7) - (1 : Int32))) 0 (((((f_Reg_jumpTo (pr (pr (mvA S) 1 (((((mvA S).1 1) + (-1 : Int32)) &&& (f_Reg_indexMask (mvA S))))) 2 (((((mvA S).1 2) + (-1 : Int32)) &&& (f_Reg_indexMask (pr (mvA S) 1 (((((mvA S).1 1) + (-1 : Int32)) &&& (f_Reg_indexMask (mvA S))))))))) ((S.1 7) - (1 : Int32))).1 0) - (1 : Int32)) &&& (65535 : Int32)))))) := rfl
theorem em_44 (T : Sc) : f_Mdl_other T (68 : Int32) = ((1 : Int32), (f_Mdl_moveBlock T (-1 : Int32))) := rfl
theorem o_44 {S T : Sc} (h : RR S T) : KO (f_Prc_moveBlock S (68 : Int32)) (f_Mdl_other T (68 : Int32)) := by
  rw [ec_44, em_44]
  have b := s_mv (x := (-1)) h
  by_cases z : (mvA S).1 0 = (0 : Int32)
  · rw [if_pos z] at b
    rw [if_pos z]
    exact ⟨rfl, rfl, b⟩
  · rw [if_neg z] at b
    rw [if_neg z, jt_0, pr2_0, pr1_0]
    exact ⟨rfl, rfl, b⟩
theorem ec_45 (S : Sc) : f_Prc_useAccumulator S (69 : Int32) = ((1 : Int32), (f_Reg_loadA (f_Bus_readValue (f_Opd_place S (5 : Int32)).2 (f_Opd_place S (5 : Int32)).1 (f_Reg_wideA S)).2 ((f_Reg_a (f_Bus_readValue (f_Opd_place S (5 : Int32)).2 (f_Opd_place S (5 : Int32)).1 (f_Reg_wideA S)).2) ^^^ (f_Bus_readValue (f_Opd_place S (5 : Int32)).2 (f_Opd_place S (5 : Int32)).1 (f_Reg_wideA S)).1))) := rfl
theorem em_45 (T : Sc) : f_Mdl_arithmetic T (69 : Int32) = ((1 : Int32), (f_Mdl_setAccumulator (f_Mdl_result (f_Mdl_load (f_Mdl_find T (5 : Int32)).2 (f_Mdl_is T (32 : Int32))).2 ((f_Mdl_accumulator (f_Mdl_load (f_Mdl_find T (5 : Int32)).2 (f_Mdl_is T (32 : Int32))).2) ^^^ (f_Mdl_load (f_Mdl_find T (5 : Int32)).2 (f_Mdl_is T (32 : Int32))).1) (f_Mdl_is T (32 : Int32))).2 (f_Mdl_result (f_Mdl_load (f_Mdl_find T (5 : Int32)).2 (f_Mdl_is T (32 : Int32))).2 ((f_Mdl_accumulator (f_Mdl_load (f_Mdl_find T (5 : Int32)).2 (f_Mdl_is T (32 : Int32))).2) ^^^ (f_Mdl_load (f_Mdl_find T (5 : Int32)).2 (f_Mdl_is T (32 : Int32))).1) (f_Mdl_is T (32 : Int32))).1)) := by
  have e : f_Mdl_arithmetic T (69 : Int32) = if (f_Mdl_find T (5 : Int32)).1 = (0 : Int32) then (((0 : Int32), (f_Mdl_find T (5 : Int32)).2)) else (((1 : Int32), (f_Mdl_setAccumulator (f_Mdl_result (f_Mdl_load (f_Mdl_find T (5 : Int32)).2 (f_Mdl_is T (32 : Int32))).2 ((f_Mdl_accumulator (f_Mdl_load (f_Mdl_find T (5 : Int32)).2 (f_Mdl_is T (32 : Int32))).2) ^^^ (f_Mdl_load (f_Mdl_find T (5 : Int32)).2 (f_Mdl_is T (32 : Int32))).1) (f_Mdl_is T (32 : Int32))).2 (f_Mdl_result (f_Mdl_load (f_Mdl_find T (5 : Int32)).2 (f_Mdl_is T (32 : Int32))).2 ((f_Mdl_accumulator (f_Mdl_load (f_Mdl_find T (5 : Int32)).2 (f_Mdl_is T (32 : Int32))).2) ^^^ (f_Mdl_load (f_Mdl_find T (5 : Int32)).2 (f_Mdl_is T (32 : Int32))).1) (f_Mdl_is T (32 : Int32))).1))) := rfl
  rw [e, fd1_5, if_neg (by decide : ¬ (1 : Int32) = 0)]
theorem o_45 {S T : Sc} (h : RR S T) : KO (f_Prc_useAccumulator S (69 : Int32)) (f_Mdl_arithmetic T (69 : Int32)) := by
  rw [ec_45, em_45]
  obtain ⟨f1, f2, f3, f4⟩ := sp_5 h
  obtain ⟨l1, l2, l3⟩ := s_load f2 f3 (WN_A h)
  have lf := (fr_rv (S := (f_Opd_place S 5).2) (c := (f_Opd_place S 5).1) (WN_A h)).trans f4
  have hw := WN_fr h lf
  exact ⟨rfl, rfl, s_setA2 l3 hw (by rw [acc_eq l3, l1])⟩
theorem ec_46 (S : Sc) : f_Prc_changeMemory S (70 : Int32) = ((1 : Int32), (f_Bus_writeValue (f_Reg_showResult (f_Prc_changed (f_Bus_readValue (f_Opd_place S (5 : Int32)).2 (f_Opd_place S (5 : Int32)).1 (f_Reg_wideA S)).2 (2 : Int32) (f_Bus_readValue (f_Opd_place S (5 : Int32)).2 (f_Opd_place S (5 : Int32)).1 (f_Reg_wideA S)).1 (f_Reg_wideA S)).2 (f_Prc_changed (f_Bus_readValue (f_Opd_place S (5 : Int32)).2 (f_Opd_place S (5 : Int32)).1 (f_Reg_wideA S)).2 (2 : Int32) (f_Bus_readValue (f_Opd_place S (5 : Int32)).2 (f_Opd_place S (5 : Int32)).1 (f_Reg_wideA S)).1 (f_Reg_wideA S)).1 (f_Reg_wideA S)) (f_Opd_place S (5 : Int32)).1 (f_Prc_changed (f_Bus_readValue (f_Opd_place S (5 : Int32)).2 (f_Opd_place S (5 : Int32)).1 (f_Reg_wideA S)).2 (2 : Int32) (f_Bus_readValue (f_Opd_place S (5 : Int32)).2 (f_Opd_place S (5 : Int32)).1 (f_Reg_wideA S)).1 (f_Reg_wideA S)).1 (f_Reg_wideA S))) := rfl
theorem em_46 (T : Sc) : f_Mdl_change T (70 : Int32) = ((1 : Int32), (f_Mdl_changeMemory T (4 : Int32) (0 : Int32))) := rfl
theorem o_46 {S T : Sc} (h : RR S T) : KO (f_Prc_changeMemory S (70 : Int32)) (f_Mdl_change T (70 : Int32)) := by
  rw [ec_46, em_46]
  exact ⟨rfl, rfl, s_cm h 5 0 (Or.inl ⟨rfl, rfl⟩) (cm0 T 4) (fun {S T : Sc} {v w n : Int32} => sc_2)⟩
theorem ec_47 (S : Sc) : f_Prc_useAccumulator S (71 : Int32) = ((1 : Int32), (f_Reg_loadA (f_Bus_readValue (f_Opd_place S (7 : Int32)).2 (f_Opd_place S (7 : Int32)).1 (f_Reg_wideA S)).2 ((f_Reg_a (f_Bus_readValue (f_Opd_place S (7 : Int32)).2 (f_Opd_place S (7 : Int32)).1 (f_Reg_wideA S)).2) ^^^ (f_Bus_readValue (f_Opd_place S (7 : Int32)).2 (f_Opd_place S (7 : Int32)).1 (f_Reg_wideA S)).1))) := rfl
theorem em_47 (T : Sc) : f_Mdl_arithmetic T (71 : Int32) = ((1 : Int32), (f_Mdl_setAccumulator (f_Mdl_result (f_Mdl_load (f_Mdl_find T (7 : Int32)).2 (f_Mdl_is T (32 : Int32))).2 ((f_Mdl_accumulator (f_Mdl_load (f_Mdl_find T (7 : Int32)).2 (f_Mdl_is T (32 : Int32))).2) ^^^ (f_Mdl_load (f_Mdl_find T (7 : Int32)).2 (f_Mdl_is T (32 : Int32))).1) (f_Mdl_is T (32 : Int32))).2 (f_Mdl_result (f_Mdl_load (f_Mdl_find T (7 : Int32)).2 (f_Mdl_is T (32 : Int32))).2 ((f_Mdl_accumulator (f_Mdl_load (f_Mdl_find T (7 : Int32)).2 (f_Mdl_is T (32 : Int32))).2) ^^^ (f_Mdl_load (f_Mdl_find T (7 : Int32)).2 (f_Mdl_is T (32 : Int32))).1) (f_Mdl_is T (32 : Int32))).1)) := by
  have e : f_Mdl_arithmetic T (71 : Int32) = if (f_Mdl_find T (7 : Int32)).1 = (0 : Int32) then (((0 : Int32), (f_Mdl_find T (7 : Int32)).2)) else (((1 : Int32), (f_Mdl_setAccumulator (f_Mdl_result (f_Mdl_load (f_Mdl_find T (7 : Int32)).2 (f_Mdl_is T (32 : Int32))).2 ((f_Mdl_accumulator (f_Mdl_load (f_Mdl_find T (7 : Int32)).2 (f_Mdl_is T (32 : Int32))).2) ^^^ (f_Mdl_load (f_Mdl_find T (7 : Int32)).2 (f_Mdl_is T (32 : Int32))).1) (f_Mdl_is T (32 : Int32))).2 (f_Mdl_result (f_Mdl_load (f_Mdl_find T (7 : Int32)).2 (f_Mdl_is T (32 : Int32))).2 ((f_Mdl_accumulator (f_Mdl_load (f_Mdl_find T (7 : Int32)).2 (f_Mdl_is T (32 : Int32))).2) ^^^ (f_Mdl_load (f_Mdl_find T (7 : Int32)).2 (f_Mdl_is T (32 : Int32))).1) (f_Mdl_is T (32 : Int32))).1))) := rfl
  rw [e, fd1_7, if_neg (by decide : ¬ (1 : Int32) = 0)]
theorem o_47 {S T : Sc} (h : RR S T) : KO (f_Prc_useAccumulator S (71 : Int32)) (f_Mdl_arithmetic T (71 : Int32)) := by
  rw [ec_47, em_47]
  obtain ⟨f1, f2, f3, f4⟩ := sp_7 h
  obtain ⟨l1, l2, l3⟩ := s_load f2 f3 (WN_A h)
  have lf := (fr_rv (S := (f_Opd_place S 7).2) (c := (f_Opd_place S 7).1) (WN_A h)).trans f4
  have hw := WN_fr h lf
  exact ⟨rfl, rfl, s_setA2 l3 hw (by rw [acc_eq l3, l1])⟩
theorem ec_48 (S : Sc) : f_Prc_push S (72 : Int32) = ((1 : Int32), (f_Stk_pushValue S (S.1 0) (f_Reg_wideA S))) := rfl
theorem em_48 (T : Sc) : f_Mdl_stack T (72 : Int32) = ((1 : Int32), (f_Mdl_pushOf T (f_Mdl_accumulator T) (f_Mdl_is T (32 : Int32)))) := rfl
theorem o_48 {S T : Sc} (h : RR S T) : KO (f_Prc_push S (72 : Int32)) (f_Mdl_stack T (72 : Int32)) := by
  rw [ec_48, em_48]
  exact ⟨rfl, rfl, s_pushV h (WN_A h) (fun z => acc_w h rfl z) (acc_255 h)⟩
theorem ec_49 (S : Sc) : f_Prc_useAccumulator S (73 : Int32) = ((1 : Int32), (f_Reg_loadA (f_Opd_nextValue S (f_Reg_wideA S)).2 ((f_Reg_a (f_Opd_nextValue S (f_Reg_wideA S)).2) ^^^ (f_Opd_nextValue S (f_Reg_wideA S)).1))) := rfl
theorem em_49 (T : Sc) : f_Mdl_arithmetic T (73 : Int32) = ((1 : Int32), (f_Mdl_setAccumulator (f_Mdl_result (f_Mdl_immediate T (f_Mdl_is T (32 : Int32))).2 ((f_Mdl_accumulator (f_Mdl_immediate T (f_Mdl_is T (32 : Int32))).2) ^^^ (f_Mdl_immediate T (f_Mdl_is T (32 : Int32))).1) (f_Mdl_is T (32 : Int32))).2 (f_Mdl_result (f_Mdl_immediate T (f_Mdl_is T (32 : Int32))).2 ((f_Mdl_accumulator (f_Mdl_immediate T (f_Mdl_is T (32 : Int32))).2) ^^^ (f_Mdl_immediate T (f_Mdl_is T (32 : Int32))).1) (f_Mdl_is T (32 : Int32))).1)) := rfl
theorem o_49 {S T : Sc} (h : RR S T) : KO (f_Prc_useAccumulator S (73 : Int32)) (f_Mdl_arithmetic T (73 : Int32)) := by
  rw [ec_49, em_49]
  obtain ⟨l1, l2, l3⟩ := s_nv h (WN_A h)
  have lf := fr_nv (S := S) (WN_A h)
  have hw := WN_fr h lf
  exact ⟨rfl, rfl, s_setA2 l3 hw (by rw [acc_eq l3, l1])⟩
theorem ec_4A (S : Sc) : f_Prc_changeRegister S (74 : Int32) = ((1 : Int32), (f_Reg_loadA (f_Prc_changed S (2 : Int32) (f_Reg_a S) (f_Reg_wideA S)).2 (f_Prc_changed S (2 : Int32) (f_Reg_a S) (f_Reg_wideA S)).1)) := rfl
theorem em_4A (T : Sc) : f_Mdl_change T (74 : Int32) = ((1 : Int32), (f_Mdl_setAccumulator (f_Mdl_changed T (4 : Int32) (f_Mdl_accumulator T) (f_Mdl_is T (32 : Int32))).2 (f_Mdl_changed T (4 : Int32) (f_Mdl_accumulator T) (f_Mdl_is T (32 : Int32))).1)) := rfl
theorem o_4A {S T : Sc} (h : RR S T) : KO (f_Prc_changeRegister S (74 : Int32)) (f_Mdl_change T (74 : Int32)) := by
  rw [ec_4A, em_4A]
  obtain ⟨T2, Ex, q1, q2, q3, q4, -, -⟩ := sc_2 h (WN_A h) (a_rg S)
  rw [← acc_eq h, q1]
  exact ⟨rfl, rfl, s_setA3 q2 (WN_b h q4) (WN_A h) (wA_b q4) q3⟩
theorem ec_4B (S : Sc) : f_Prc_push S (75 : Int32) = ((1 : Int32), (f_Stk_pushByte S (S.1 6))) := rfl
theorem em_4B (T : Sc) : f_Mdl_stack T (75 : Int32) = ((1 : Int32), (f_Mdl_push T (T.1 7))) := rfl
theorem o_4B {S T : Sc} (h : RR S T) : KO (f_Prc_push S (75 : Int32)) (f_Mdl_stack T (75 : Int32)) := by
  rw [ec_4B, em_4B]
  exact ⟨rfl, rfl, s_push h (by rw [RRe_6 h])⟩
theorem ec_4C (S : Sc) : f_Prc_jump S (76 : Int32) = ((1 : Int32), (f_Reg_jumpTo (f_Opd_nextWord S).2 (f_Opd_nextWord S).1)) := rfl
theorem em_4C (T : Sc) : f_Mdl_jump T (76 : Int32) = ((1 : Int32), (pr (f_Mdl_nextWord T).2 8 ((f_Mdl_nextWord T).1))) := rfl
theorem o_4C {S T : Sc} (h : RR S T) : KO (f_Prc_jump S (76 : Int32)) (f_Mdl_jump T (76 : Int32)) := by
  rw [ec_4C, em_4C]
  obtain ⟨a1, a2, a3⟩ := s_nw h
  exact ⟨rfl, rfl, s_jump a3 (a2.trans a1)⟩
theorem ec_4D (S : Sc) : f_Prc_useAccumulator S (77 : Int32) = ((1 : Int32), (f_Reg_loadA (f_Bus_readValue (f_Opd_place S (13 : Int32)).2 (f_Opd_place S (13 : Int32)).1 (f_Reg_wideA S)).2 ((f_Reg_a (f_Bus_readValue (f_Opd_place S (13 : Int32)).2 (f_Opd_place S (13 : Int32)).1 (f_Reg_wideA S)).2) ^^^ (f_Bus_readValue (f_Opd_place S (13 : Int32)).2 (f_Opd_place S (13 : Int32)).1 (f_Reg_wideA S)).1))) := rfl
theorem em_4D (T : Sc) : f_Mdl_arithmetic T (77 : Int32) = ((1 : Int32), (f_Mdl_setAccumulator (f_Mdl_result (f_Mdl_load (f_Mdl_find T (13 : Int32)).2 (f_Mdl_is T (32 : Int32))).2 ((f_Mdl_accumulator (f_Mdl_load (f_Mdl_find T (13 : Int32)).2 (f_Mdl_is T (32 : Int32))).2) ^^^ (f_Mdl_load (f_Mdl_find T (13 : Int32)).2 (f_Mdl_is T (32 : Int32))).1) (f_Mdl_is T (32 : Int32))).2 (f_Mdl_result (f_Mdl_load (f_Mdl_find T (13 : Int32)).2 (f_Mdl_is T (32 : Int32))).2 ((f_Mdl_accumulator (f_Mdl_load (f_Mdl_find T (13 : Int32)).2 (f_Mdl_is T (32 : Int32))).2) ^^^ (f_Mdl_load (f_Mdl_find T (13 : Int32)).2 (f_Mdl_is T (32 : Int32))).1) (f_Mdl_is T (32 : Int32))).1)) := by
  have e : f_Mdl_arithmetic T (77 : Int32) = if (f_Mdl_find T (13 : Int32)).1 = (0 : Int32) then (((0 : Int32), (f_Mdl_find T (13 : Int32)).2)) else (((1 : Int32), (f_Mdl_setAccumulator (f_Mdl_result (f_Mdl_load (f_Mdl_find T (13 : Int32)).2 (f_Mdl_is T (32 : Int32))).2 ((f_Mdl_accumulator (f_Mdl_load (f_Mdl_find T (13 : Int32)).2 (f_Mdl_is T (32 : Int32))).2) ^^^ (f_Mdl_load (f_Mdl_find T (13 : Int32)).2 (f_Mdl_is T (32 : Int32))).1) (f_Mdl_is T (32 : Int32))).2 (f_Mdl_result (f_Mdl_load (f_Mdl_find T (13 : Int32)).2 (f_Mdl_is T (32 : Int32))).2 ((f_Mdl_accumulator (f_Mdl_load (f_Mdl_find T (13 : Int32)).2 (f_Mdl_is T (32 : Int32))).2) ^^^ (f_Mdl_load (f_Mdl_find T (13 : Int32)).2 (f_Mdl_is T (32 : Int32))).1) (f_Mdl_is T (32 : Int32))).1))) := rfl
  rw [e, fd1_13, if_neg (by decide : ¬ (1 : Int32) = 0)]
theorem o_4D {S T : Sc} (h : RR S T) : KO (f_Prc_useAccumulator S (77 : Int32)) (f_Mdl_arithmetic T (77 : Int32)) := by
  rw [ec_4D, em_4D]
  obtain ⟨f1, f2, f3, f4⟩ := sp_13 h
  obtain ⟨l1, l2, l3⟩ := s_load f2 f3 (WN_A h)
  have lf := (fr_rv (S := (f_Opd_place S 13).2) (c := (f_Opd_place S 13).1) (WN_A h)).trans f4
  have hw := WN_fr h lf
  exact ⟨rfl, rfl, s_setA2 l3 hw (by rw [acc_eq l3, l1])⟩
theorem ec_4F (S : Sc) : f_Prc_useAccumulator S (79 : Int32) = ((1 : Int32), (f_Reg_loadA (f_Bus_readValue (f_Opd_place S (15 : Int32)).2 (f_Opd_place S (15 : Int32)).1 (f_Reg_wideA S)).2 ((f_Reg_a (f_Bus_readValue (f_Opd_place S (15 : Int32)).2 (f_Opd_place S (15 : Int32)).1 (f_Reg_wideA S)).2) ^^^ (f_Bus_readValue (f_Opd_place S (15 : Int32)).2 (f_Opd_place S (15 : Int32)).1 (f_Reg_wideA S)).1))) := rfl
theorem em_4F (T : Sc) : f_Mdl_arithmetic T (79 : Int32) = ((1 : Int32), (f_Mdl_setAccumulator (f_Mdl_result (f_Mdl_load (f_Mdl_find T (15 : Int32)).2 (f_Mdl_is T (32 : Int32))).2 ((f_Mdl_accumulator (f_Mdl_load (f_Mdl_find T (15 : Int32)).2 (f_Mdl_is T (32 : Int32))).2) ^^^ (f_Mdl_load (f_Mdl_find T (15 : Int32)).2 (f_Mdl_is T (32 : Int32))).1) (f_Mdl_is T (32 : Int32))).2 (f_Mdl_result (f_Mdl_load (f_Mdl_find T (15 : Int32)).2 (f_Mdl_is T (32 : Int32))).2 ((f_Mdl_accumulator (f_Mdl_load (f_Mdl_find T (15 : Int32)).2 (f_Mdl_is T (32 : Int32))).2) ^^^ (f_Mdl_load (f_Mdl_find T (15 : Int32)).2 (f_Mdl_is T (32 : Int32))).1) (f_Mdl_is T (32 : Int32))).1)) := by
  have e : f_Mdl_arithmetic T (79 : Int32) = if (f_Mdl_find T (15 : Int32)).1 = (0 : Int32) then (((0 : Int32), (f_Mdl_find T (15 : Int32)).2)) else (((1 : Int32), (f_Mdl_setAccumulator (f_Mdl_result (f_Mdl_load (f_Mdl_find T (15 : Int32)).2 (f_Mdl_is T (32 : Int32))).2 ((f_Mdl_accumulator (f_Mdl_load (f_Mdl_find T (15 : Int32)).2 (f_Mdl_is T (32 : Int32))).2) ^^^ (f_Mdl_load (f_Mdl_find T (15 : Int32)).2 (f_Mdl_is T (32 : Int32))).1) (f_Mdl_is T (32 : Int32))).2 (f_Mdl_result (f_Mdl_load (f_Mdl_find T (15 : Int32)).2 (f_Mdl_is T (32 : Int32))).2 ((f_Mdl_accumulator (f_Mdl_load (f_Mdl_find T (15 : Int32)).2 (f_Mdl_is T (32 : Int32))).2) ^^^ (f_Mdl_load (f_Mdl_find T (15 : Int32)).2 (f_Mdl_is T (32 : Int32))).1) (f_Mdl_is T (32 : Int32))).1))) := rfl
  rw [e, fd1_15, if_neg (by decide : ¬ (1 : Int32) = 0)]
theorem o_4F {S T : Sc} (h : RR S T) : KO (f_Prc_useAccumulator S (79 : Int32)) (f_Mdl_arithmetic T (79 : Int32)) := by
  rw [ec_4F, em_4F]
  obtain ⟨f1, f2, f3, f4⟩ := sp_15 h
  obtain ⟨l1, l2, l3⟩ := s_load f2 f3 (WN_A h)
  have lf := (fr_rv (S := (f_Opd_place S 15).2) (c := (f_Opd_place S 15).1) (WN_A h)).trans f4
  have hw := WN_fr h lf
  exact ⟨rfl, rfl, s_setA2 l3 hw (by rw [acc_eq l3, l1])⟩
theorem ec_50 (S : Sc) : f_Prc_branch S (80 : Int32) = if (f_Reg_has (f_Opd_nextByte S).2 (bf ((1 : Int32)).toNatClampNeg)) = (0 : Int32) then (((1 : Int32), (f_Reg_jumpTo (f_Opd_nextByte S).2 (((f_Opd_nextByte S).2.1 7) + (((f_Opd_nextByte S).1).toInt8.toInt32))))) else (((1 : Int32), (f_Opd_nextByte S).2)) := rfl
theorem em_50 (T : Sc) : f_Mdl_jump T (80 : Int32) = if (f_Mdl_is T (64 : Int32)) = (0 : Int32) then (((1 : Int32), (f_Mdl_branch T (1 : Int32)))) else (((1 : Int32), (f_Mdl_branch T (0 : Int32)))) := rfl
theorem o_50 {S T : Sc} (h : RR S T) : KO (f_Prc_branch S (80 : Int32)) (f_Mdl_jump T (80 : Int32)) := by
  rw [ec_50, em_50]
  have e : f_Reg_has (f_Opd_nextByte S).2 (64 : Int32) = f_Mdl_is T (64 : Int32) := has_n h (64 : Int32)
  have eb : bf (1 : Int32).toNatClampNeg = (64 : Int32) := rfl
  rw [eb, e]
  by_cases z : f_Mdl_is T (64 : Int32) = (0 : Int32)
  · rw [if_pos z, if_pos z]; exact ⟨rfl, rfl, (s_br (x := 1) h).1 (by decide)⟩
  · rw [if_neg z, if_neg z]; exact ⟨rfl, rfl, (s_br (x := 0) h).2 rfl⟩
theorem ec_51 (S : Sc) : f_Prc_useAccumulator S (81 : Int32) = ((1 : Int32), (f_Reg_loadA (f_Bus_readValue (f_Opd_place S (17 : Int32)).2 (f_Opd_place S (17 : Int32)).1 (f_Reg_wideA S)).2 ((f_Reg_a (f_Bus_readValue (f_Opd_place S (17 : Int32)).2 (f_Opd_place S (17 : Int32)).1 (f_Reg_wideA S)).2) ^^^ (f_Bus_readValue (f_Opd_place S (17 : Int32)).2 (f_Opd_place S (17 : Int32)).1 (f_Reg_wideA S)).1))) := rfl
theorem em_51 (T : Sc) : f_Mdl_arithmetic T (81 : Int32) = ((1 : Int32), (f_Mdl_setAccumulator (f_Mdl_result (f_Mdl_load (f_Mdl_find T (17 : Int32)).2 (f_Mdl_is T (32 : Int32))).2 ((f_Mdl_accumulator (f_Mdl_load (f_Mdl_find T (17 : Int32)).2 (f_Mdl_is T (32 : Int32))).2) ^^^ (f_Mdl_load (f_Mdl_find T (17 : Int32)).2 (f_Mdl_is T (32 : Int32))).1) (f_Mdl_is T (32 : Int32))).2 (f_Mdl_result (f_Mdl_load (f_Mdl_find T (17 : Int32)).2 (f_Mdl_is T (32 : Int32))).2 ((f_Mdl_accumulator (f_Mdl_load (f_Mdl_find T (17 : Int32)).2 (f_Mdl_is T (32 : Int32))).2) ^^^ (f_Mdl_load (f_Mdl_find T (17 : Int32)).2 (f_Mdl_is T (32 : Int32))).1) (f_Mdl_is T (32 : Int32))).1)) := by
  have e : f_Mdl_arithmetic T (81 : Int32) = if (f_Mdl_find T (17 : Int32)).1 = (0 : Int32) then (((0 : Int32), (f_Mdl_find T (17 : Int32)).2)) else (((1 : Int32), (f_Mdl_setAccumulator (f_Mdl_result (f_Mdl_load (f_Mdl_find T (17 : Int32)).2 (f_Mdl_is T (32 : Int32))).2 ((f_Mdl_accumulator (f_Mdl_load (f_Mdl_find T (17 : Int32)).2 (f_Mdl_is T (32 : Int32))).2) ^^^ (f_Mdl_load (f_Mdl_find T (17 : Int32)).2 (f_Mdl_is T (32 : Int32))).1) (f_Mdl_is T (32 : Int32))).2 (f_Mdl_result (f_Mdl_load (f_Mdl_find T (17 : Int32)).2 (f_Mdl_is T (32 : Int32))).2 ((f_Mdl_accumulator (f_Mdl_load (f_Mdl_find T (17 : Int32)).2 (f_Mdl_is T (32 : Int32))).2) ^^^ (f_Mdl_load (f_Mdl_find T (17 : Int32)).2 (f_Mdl_is T (32 : Int32))).1) (f_Mdl_is T (32 : Int32))).1))) := rfl
  rw [e, fd1_17, if_neg (by decide : ¬ (1 : Int32) = 0)]
theorem o_51 {S T : Sc} (h : RR S T) : KO (f_Prc_useAccumulator S (81 : Int32)) (f_Mdl_arithmetic T (81 : Int32)) := by
  rw [ec_51, em_51]
  obtain ⟨f1, f2, f3, f4⟩ := sp_17 h
  obtain ⟨l1, l2, l3⟩ := s_load f2 f3 (WN_A h)
  have lf := (fr_rv (S := (f_Opd_place S 17).2) (c := (f_Opd_place S 17).1) (WN_A h)).trans f4
  have hw := WN_fr h lf
  exact ⟨rfl, rfl, s_setA2 l3 hw (by rw [acc_eq l3, l1])⟩
theorem ec_52 (S : Sc) : f_Prc_useAccumulator S (82 : Int32) = ((1 : Int32), (f_Reg_loadA (f_Bus_readValue (f_Opd_place S (18 : Int32)).2 (f_Opd_place S (18 : Int32)).1 (f_Reg_wideA S)).2 ((f_Reg_a (f_Bus_readValue (f_Opd_place S (18 : Int32)).2 (f_Opd_place S (18 : Int32)).1 (f_Reg_wideA S)).2) ^^^ (f_Bus_readValue (f_Opd_place S (18 : Int32)).2 (f_Opd_place S (18 : Int32)).1 (f_Reg_wideA S)).1))) := rfl
theorem em_52 (T : Sc) : f_Mdl_arithmetic T (82 : Int32) = ((1 : Int32), (f_Mdl_setAccumulator (f_Mdl_result (f_Mdl_load (f_Mdl_find T (18 : Int32)).2 (f_Mdl_is T (32 : Int32))).2 ((f_Mdl_accumulator (f_Mdl_load (f_Mdl_find T (18 : Int32)).2 (f_Mdl_is T (32 : Int32))).2) ^^^ (f_Mdl_load (f_Mdl_find T (18 : Int32)).2 (f_Mdl_is T (32 : Int32))).1) (f_Mdl_is T (32 : Int32))).2 (f_Mdl_result (f_Mdl_load (f_Mdl_find T (18 : Int32)).2 (f_Mdl_is T (32 : Int32))).2 ((f_Mdl_accumulator (f_Mdl_load (f_Mdl_find T (18 : Int32)).2 (f_Mdl_is T (32 : Int32))).2) ^^^ (f_Mdl_load (f_Mdl_find T (18 : Int32)).2 (f_Mdl_is T (32 : Int32))).1) (f_Mdl_is T (32 : Int32))).1)) := by
  have e : f_Mdl_arithmetic T (82 : Int32) = if (f_Mdl_find T (18 : Int32)).1 = (0 : Int32) then (((0 : Int32), (f_Mdl_find T (18 : Int32)).2)) else (((1 : Int32), (f_Mdl_setAccumulator (f_Mdl_result (f_Mdl_load (f_Mdl_find T (18 : Int32)).2 (f_Mdl_is T (32 : Int32))).2 ((f_Mdl_accumulator (f_Mdl_load (f_Mdl_find T (18 : Int32)).2 (f_Mdl_is T (32 : Int32))).2) ^^^ (f_Mdl_load (f_Mdl_find T (18 : Int32)).2 (f_Mdl_is T (32 : Int32))).1) (f_Mdl_is T (32 : Int32))).2 (f_Mdl_result (f_Mdl_load (f_Mdl_find T (18 : Int32)).2 (f_Mdl_is T (32 : Int32))).2 ((f_Mdl_accumulator (f_Mdl_load (f_Mdl_find T (18 : Int32)).2 (f_Mdl_is T (32 : Int32))).2) ^^^ (f_Mdl_load (f_Mdl_find T (18 : Int32)).2 (f_Mdl_is T (32 : Int32))).1) (f_Mdl_is T (32 : Int32))).1))) := rfl
  rw [e, fd1_18, if_neg (by decide : ¬ (1 : Int32) = 0)]
theorem o_52 {S T : Sc} (h : RR S T) : KO (f_Prc_useAccumulator S (82 : Int32)) (f_Mdl_arithmetic T (82 : Int32)) := by
  rw [ec_52, em_52]
  obtain ⟨f1, f2, f3, f4⟩ := sp_18 h
  obtain ⟨l1, l2, l3⟩ := s_load f2 f3 (WN_A h)
  have lf := (fr_rv (S := (f_Opd_place S 18).2) (c := (f_Opd_place S 18).1) (WN_A h)).trans f4
  have hw := WN_fr h lf
  exact ⟨rfl, rfl, s_setA2 l3 hw (by rw [acc_eq l3, l1])⟩
theorem ec_53 (S : Sc) : f_Prc_useAccumulator S (83 : Int32) = ((1 : Int32), (f_Reg_loadA (f_Bus_readValue (f_Opd_place S (19 : Int32)).2 (f_Opd_place S (19 : Int32)).1 (f_Reg_wideA S)).2 ((f_Reg_a (f_Bus_readValue (f_Opd_place S (19 : Int32)).2 (f_Opd_place S (19 : Int32)).1 (f_Reg_wideA S)).2) ^^^ (f_Bus_readValue (f_Opd_place S (19 : Int32)).2 (f_Opd_place S (19 : Int32)).1 (f_Reg_wideA S)).1))) := rfl
theorem em_53 (T : Sc) : f_Mdl_arithmetic T (83 : Int32) = ((1 : Int32), (f_Mdl_setAccumulator (f_Mdl_result (f_Mdl_load (f_Mdl_find T (19 : Int32)).2 (f_Mdl_is T (32 : Int32))).2 ((f_Mdl_accumulator (f_Mdl_load (f_Mdl_find T (19 : Int32)).2 (f_Mdl_is T (32 : Int32))).2) ^^^ (f_Mdl_load (f_Mdl_find T (19 : Int32)).2 (f_Mdl_is T (32 : Int32))).1) (f_Mdl_is T (32 : Int32))).2 (f_Mdl_result (f_Mdl_load (f_Mdl_find T (19 : Int32)).2 (f_Mdl_is T (32 : Int32))).2 ((f_Mdl_accumulator (f_Mdl_load (f_Mdl_find T (19 : Int32)).2 (f_Mdl_is T (32 : Int32))).2) ^^^ (f_Mdl_load (f_Mdl_find T (19 : Int32)).2 (f_Mdl_is T (32 : Int32))).1) (f_Mdl_is T (32 : Int32))).1)) := by
  have e : f_Mdl_arithmetic T (83 : Int32) = if (f_Mdl_find T (19 : Int32)).1 = (0 : Int32) then (((0 : Int32), (f_Mdl_find T (19 : Int32)).2)) else (((1 : Int32), (f_Mdl_setAccumulator (f_Mdl_result (f_Mdl_load (f_Mdl_find T (19 : Int32)).2 (f_Mdl_is T (32 : Int32))).2 ((f_Mdl_accumulator (f_Mdl_load (f_Mdl_find T (19 : Int32)).2 (f_Mdl_is T (32 : Int32))).2) ^^^ (f_Mdl_load (f_Mdl_find T (19 : Int32)).2 (f_Mdl_is T (32 : Int32))).1) (f_Mdl_is T (32 : Int32))).2 (f_Mdl_result (f_Mdl_load (f_Mdl_find T (19 : Int32)).2 (f_Mdl_is T (32 : Int32))).2 ((f_Mdl_accumulator (f_Mdl_load (f_Mdl_find T (19 : Int32)).2 (f_Mdl_is T (32 : Int32))).2) ^^^ (f_Mdl_load (f_Mdl_find T (19 : Int32)).2 (f_Mdl_is T (32 : Int32))).1) (f_Mdl_is T (32 : Int32))).1))) := rfl
  rw [e, fd1_19, if_neg (by decide : ¬ (1 : Int32) = 0)]
theorem o_53 {S T : Sc} (h : RR S T) : KO (f_Prc_useAccumulator S (83 : Int32)) (f_Mdl_arithmetic T (83 : Int32)) := by
  rw [ec_53, em_53]
  obtain ⟨f1, f2, f3, f4⟩ := sp_19 h
  obtain ⟨l1, l2, l3⟩ := s_load f2 f3 (WN_A h)
  have lf := (fr_rv (S := (f_Opd_place S 19).2) (c := (f_Opd_place S 19).1) (WN_A h)).trans f4
  have hw := WN_fr h lf
  exact ⟨rfl, rfl, s_setA2 l3 hw (by rw [acc_eq l3, l1])⟩
theorem ec_54 (S : Sc) : f_Prc_moveBlock S (84 : Int32) = if (mvA S).1 0 = (0 : Int32) then (((1 : Int32), (pr (pr (pr (mvA S) 1 (((((mvA S).1 1) + (1 : Int32)) &&& (f_Reg_indexMask (mvA S))))) 2 (((((mvA S).1 2) + (1 : Int32)) &&& (f_Reg_indexMask (pr (mvA S) 1 (((((mvA S).1 1) + (1 : Int32)) &&& (f_Reg_indexMask (mvA S))))))))) 0 (((((mvA S).1 0) - (1 : Int32)) &&& (65535 : Int32)))))) else (((1 : Int32), (pr (f_Reg_jumpTo (pr (pr (mvA S) 1 (((((mvA S).1 1) + (1 : Int32)) &&& (f_Reg_indexMask (mvA S))))) 2 (((((mvA S).1 2) + (1 : Int32)) &&& (f_Reg_indexMask (pr (mvA S) 1 (((((mvA S).1 1) + (1 : Int32)) &&& (f_Reg_indexMask (mvA S))))))))) ((S.1 7) - (1 : Int32))) 0 (((((f_Reg_jumpTo (pr (pr (mvA S) 1 (((((mvA S).1 1) + (1 : Int32)) &&& (f_Reg_indexMask (mvA S))))) 2 (((((mvA S).1 2) + (1 : Int32)) &&& (f_Reg_indexMask (pr (mvA S) 1 (((((mvA S).1 1) + (1 : Int32)) &&& (f_Reg_indexMask (mvA S))))))))) ((S.1 7) - (1 : Int32))).1 0) - (1 : Int32)) &&& (65535 : Int32)))))) := rfl
theorem em_54 (T : Sc) : f_Mdl_other T (84 : Int32) = ((1 : Int32), (f_Mdl_moveBlock T (1 : Int32))) := rfl
theorem o_54 {S T : Sc} (h : RR S T) : KO (f_Prc_moveBlock S (84 : Int32)) (f_Mdl_other T (84 : Int32)) := by
  rw [ec_54, em_54]
  have b := s_mv (x := 1) h
  by_cases z : (mvA S).1 0 = (0 : Int32)
  · rw [if_pos z] at b
    rw [if_pos z]
    exact ⟨rfl, rfl, b⟩
  · rw [if_neg z] at b
    rw [if_neg z, jt_0, pr2_0, pr1_0]
    exact ⟨rfl, rfl, b⟩
theorem ec_55 (S : Sc) : f_Prc_useAccumulator S (85 : Int32) = ((1 : Int32), (f_Reg_loadA (f_Bus_readValue (f_Opd_place S (21 : Int32)).2 (f_Opd_place S (21 : Int32)).1 (f_Reg_wideA S)).2 ((f_Reg_a (f_Bus_readValue (f_Opd_place S (21 : Int32)).2 (f_Opd_place S (21 : Int32)).1 (f_Reg_wideA S)).2) ^^^ (f_Bus_readValue (f_Opd_place S (21 : Int32)).2 (f_Opd_place S (21 : Int32)).1 (f_Reg_wideA S)).1))) := rfl
theorem em_55 (T : Sc) : f_Mdl_arithmetic T (85 : Int32) = ((1 : Int32), (f_Mdl_setAccumulator (f_Mdl_result (f_Mdl_load (f_Mdl_find T (21 : Int32)).2 (f_Mdl_is T (32 : Int32))).2 ((f_Mdl_accumulator (f_Mdl_load (f_Mdl_find T (21 : Int32)).2 (f_Mdl_is T (32 : Int32))).2) ^^^ (f_Mdl_load (f_Mdl_find T (21 : Int32)).2 (f_Mdl_is T (32 : Int32))).1) (f_Mdl_is T (32 : Int32))).2 (f_Mdl_result (f_Mdl_load (f_Mdl_find T (21 : Int32)).2 (f_Mdl_is T (32 : Int32))).2 ((f_Mdl_accumulator (f_Mdl_load (f_Mdl_find T (21 : Int32)).2 (f_Mdl_is T (32 : Int32))).2) ^^^ (f_Mdl_load (f_Mdl_find T (21 : Int32)).2 (f_Mdl_is T (32 : Int32))).1) (f_Mdl_is T (32 : Int32))).1)) := by
  have e : f_Mdl_arithmetic T (85 : Int32) = if (f_Mdl_find T (21 : Int32)).1 = (0 : Int32) then (((0 : Int32), (f_Mdl_find T (21 : Int32)).2)) else (((1 : Int32), (f_Mdl_setAccumulator (f_Mdl_result (f_Mdl_load (f_Mdl_find T (21 : Int32)).2 (f_Mdl_is T (32 : Int32))).2 ((f_Mdl_accumulator (f_Mdl_load (f_Mdl_find T (21 : Int32)).2 (f_Mdl_is T (32 : Int32))).2) ^^^ (f_Mdl_load (f_Mdl_find T (21 : Int32)).2 (f_Mdl_is T (32 : Int32))).1) (f_Mdl_is T (32 : Int32))).2 (f_Mdl_result (f_Mdl_load (f_Mdl_find T (21 : Int32)).2 (f_Mdl_is T (32 : Int32))).2 ((f_Mdl_accumulator (f_Mdl_load (f_Mdl_find T (21 : Int32)).2 (f_Mdl_is T (32 : Int32))).2) ^^^ (f_Mdl_load (f_Mdl_find T (21 : Int32)).2 (f_Mdl_is T (32 : Int32))).1) (f_Mdl_is T (32 : Int32))).1))) := rfl
  rw [e, fd1_21, if_neg (by decide : ¬ (1 : Int32) = 0)]
theorem o_55 {S T : Sc} (h : RR S T) : KO (f_Prc_useAccumulator S (85 : Int32)) (f_Mdl_arithmetic T (85 : Int32)) := by
  rw [ec_55, em_55]
  obtain ⟨f1, f2, f3, f4⟩ := sp_21 h
  obtain ⟨l1, l2, l3⟩ := s_load f2 f3 (WN_A h)
  have lf := (fr_rv (S := (f_Opd_place S 21).2) (c := (f_Opd_place S 21).1) (WN_A h)).trans f4
  have hw := WN_fr h lf
  exact ⟨rfl, rfl, s_setA2 l3 hw (by rw [acc_eq l3, l1])⟩
theorem ec_57 (S : Sc) : f_Prc_useAccumulator S (87 : Int32) = ((1 : Int32), (f_Reg_loadA (f_Bus_readValue (f_Opd_place S (23 : Int32)).2 (f_Opd_place S (23 : Int32)).1 (f_Reg_wideA S)).2 ((f_Reg_a (f_Bus_readValue (f_Opd_place S (23 : Int32)).2 (f_Opd_place S (23 : Int32)).1 (f_Reg_wideA S)).2) ^^^ (f_Bus_readValue (f_Opd_place S (23 : Int32)).2 (f_Opd_place S (23 : Int32)).1 (f_Reg_wideA S)).1))) := rfl
theorem em_57 (T : Sc) : f_Mdl_arithmetic T (87 : Int32) = ((1 : Int32), (f_Mdl_setAccumulator (f_Mdl_result (f_Mdl_load (f_Mdl_find T (23 : Int32)).2 (f_Mdl_is T (32 : Int32))).2 ((f_Mdl_accumulator (f_Mdl_load (f_Mdl_find T (23 : Int32)).2 (f_Mdl_is T (32 : Int32))).2) ^^^ (f_Mdl_load (f_Mdl_find T (23 : Int32)).2 (f_Mdl_is T (32 : Int32))).1) (f_Mdl_is T (32 : Int32))).2 (f_Mdl_result (f_Mdl_load (f_Mdl_find T (23 : Int32)).2 (f_Mdl_is T (32 : Int32))).2 ((f_Mdl_accumulator (f_Mdl_load (f_Mdl_find T (23 : Int32)).2 (f_Mdl_is T (32 : Int32))).2) ^^^ (f_Mdl_load (f_Mdl_find T (23 : Int32)).2 (f_Mdl_is T (32 : Int32))).1) (f_Mdl_is T (32 : Int32))).1)) := by
  have e : f_Mdl_arithmetic T (87 : Int32) = if (f_Mdl_find T (23 : Int32)).1 = (0 : Int32) then (((0 : Int32), (f_Mdl_find T (23 : Int32)).2)) else (((1 : Int32), (f_Mdl_setAccumulator (f_Mdl_result (f_Mdl_load (f_Mdl_find T (23 : Int32)).2 (f_Mdl_is T (32 : Int32))).2 ((f_Mdl_accumulator (f_Mdl_load (f_Mdl_find T (23 : Int32)).2 (f_Mdl_is T (32 : Int32))).2) ^^^ (f_Mdl_load (f_Mdl_find T (23 : Int32)).2 (f_Mdl_is T (32 : Int32))).1) (f_Mdl_is T (32 : Int32))).2 (f_Mdl_result (f_Mdl_load (f_Mdl_find T (23 : Int32)).2 (f_Mdl_is T (32 : Int32))).2 ((f_Mdl_accumulator (f_Mdl_load (f_Mdl_find T (23 : Int32)).2 (f_Mdl_is T (32 : Int32))).2) ^^^ (f_Mdl_load (f_Mdl_find T (23 : Int32)).2 (f_Mdl_is T (32 : Int32))).1) (f_Mdl_is T (32 : Int32))).1))) := rfl
  rw [e, fd1_23, if_neg (by decide : ¬ (1 : Int32) = 0)]
theorem o_57 {S T : Sc} (h : RR S T) : KO (f_Prc_useAccumulator S (87 : Int32)) (f_Mdl_arithmetic T (87 : Int32)) := by
  rw [ec_57, em_57]
  obtain ⟨f1, f2, f3, f4⟩ := sp_23 h
  obtain ⟨l1, l2, l3⟩ := s_load f2 f3 (WN_A h)
  have lf := (fr_rv (S := (f_Opd_place S 23).2) (c := (f_Opd_place S 23).1) (WN_A h)).trans f4
  have hw := WN_fr h lf
  exact ⟨rfl, rfl, s_setA2 l3 hw (by rw [acc_eq l3, l1])⟩
theorem ec_58 (S : Sc) : f_Prc_changeFlags S (88 : Int32) = ((1 : Int32), (f_Reg_putFlag S (4 : Int32) (0 : Int32))) := rfl
theorem em_58 (T : Sc) : f_Mdl_other T (88 : Int32) = ((1 : Int32), (f_Mdl_flag T (4 : Int32) (0 : Int32))) := rfl
theorem o_58 {S T : Sc} (h : RR S T) : KO (f_Prc_changeFlags S (88 : Int32)) (f_Mdl_other T (88 : Int32)) := by
  rw [ec_58, em_58]
  exact ⟨rfl, rfl, s_flag h 4 0 (by decide)⟩
theorem ec_59 (S : Sc) : f_Prc_useAccumulator S (89 : Int32) = ((1 : Int32), (f_Reg_loadA (f_Bus_readValue (f_Opd_place S (25 : Int32)).2 (f_Opd_place S (25 : Int32)).1 (f_Reg_wideA S)).2 ((f_Reg_a (f_Bus_readValue (f_Opd_place S (25 : Int32)).2 (f_Opd_place S (25 : Int32)).1 (f_Reg_wideA S)).2) ^^^ (f_Bus_readValue (f_Opd_place S (25 : Int32)).2 (f_Opd_place S (25 : Int32)).1 (f_Reg_wideA S)).1))) := rfl
theorem em_59 (T : Sc) : f_Mdl_arithmetic T (89 : Int32) = ((1 : Int32), (f_Mdl_setAccumulator (f_Mdl_result (f_Mdl_load (f_Mdl_find T (25 : Int32)).2 (f_Mdl_is T (32 : Int32))).2 ((f_Mdl_accumulator (f_Mdl_load (f_Mdl_find T (25 : Int32)).2 (f_Mdl_is T (32 : Int32))).2) ^^^ (f_Mdl_load (f_Mdl_find T (25 : Int32)).2 (f_Mdl_is T (32 : Int32))).1) (f_Mdl_is T (32 : Int32))).2 (f_Mdl_result (f_Mdl_load (f_Mdl_find T (25 : Int32)).2 (f_Mdl_is T (32 : Int32))).2 ((f_Mdl_accumulator (f_Mdl_load (f_Mdl_find T (25 : Int32)).2 (f_Mdl_is T (32 : Int32))).2) ^^^ (f_Mdl_load (f_Mdl_find T (25 : Int32)).2 (f_Mdl_is T (32 : Int32))).1) (f_Mdl_is T (32 : Int32))).1)) := by
  have e : f_Mdl_arithmetic T (89 : Int32) = if (f_Mdl_find T (25 : Int32)).1 = (0 : Int32) then (((0 : Int32), (f_Mdl_find T (25 : Int32)).2)) else (((1 : Int32), (f_Mdl_setAccumulator (f_Mdl_result (f_Mdl_load (f_Mdl_find T (25 : Int32)).2 (f_Mdl_is T (32 : Int32))).2 ((f_Mdl_accumulator (f_Mdl_load (f_Mdl_find T (25 : Int32)).2 (f_Mdl_is T (32 : Int32))).2) ^^^ (f_Mdl_load (f_Mdl_find T (25 : Int32)).2 (f_Mdl_is T (32 : Int32))).1) (f_Mdl_is T (32 : Int32))).2 (f_Mdl_result (f_Mdl_load (f_Mdl_find T (25 : Int32)).2 (f_Mdl_is T (32 : Int32))).2 ((f_Mdl_accumulator (f_Mdl_load (f_Mdl_find T (25 : Int32)).2 (f_Mdl_is T (32 : Int32))).2) ^^^ (f_Mdl_load (f_Mdl_find T (25 : Int32)).2 (f_Mdl_is T (32 : Int32))).1) (f_Mdl_is T (32 : Int32))).1))) := rfl
  rw [e, fd1_25, if_neg (by decide : ¬ (1 : Int32) = 0)]
theorem o_59 {S T : Sc} (h : RR S T) : KO (f_Prc_useAccumulator S (89 : Int32)) (f_Mdl_arithmetic T (89 : Int32)) := by
  rw [ec_59, em_59]
  obtain ⟨f1, f2, f3, f4⟩ := sp_25 h
  obtain ⟨l1, l2, l3⟩ := s_load f2 f3 (WN_A h)
  have lf := (fr_rv (S := (f_Opd_place S 25).2) (c := (f_Opd_place S 25).1) (WN_A h)).trans f4
  have hw := WN_fr h lf
  exact ⟨rfl, rfl, s_setA2 l3 hw (by rw [acc_eq l3, l1])⟩
theorem ec_5A (S : Sc) : f_Prc_push S (90 : Int32) = ((1 : Int32), (f_Stk_pushValue S (S.1 2) (f_Reg_wideIndex S))) := rfl
theorem em_5A (T : Sc) : f_Mdl_stack T (90 : Int32) = ((1 : Int32), (f_Mdl_pushOf T (T.1 2) (f_Mdl_is T (16 : Int32)))) := rfl
theorem o_5A {S T : Sc} (h : RR S T) : KO (f_Prc_push S (90 : Int32)) (f_Mdl_stack T (90 : Int32)) := by
  rw [ec_5A, em_5A]
  exact ⟨rfl, rfl, s_pushV h (WN_I h) (fun _ => RRe_2 h) (by rw [RRe_2 h])⟩
theorem ec_5B (S : Sc) : f_Prc_transfer S (91 : Int32) = ((1 : Int32), (f_Reg_loadD S (S.1 0))) := rfl
theorem em_5B (T : Sc) : f_Mdl_transfer T (91 : Int32) = ((1 : Int32), (pr (f_Mdl_result T (T.1 0) (0 : Int32)).2 4 ((f_Mdl_result T (T.1 0) (0 : Int32)).1))) := rfl
theorem o_5B {S T : Sc} (h : RR S T) : KO (f_Prc_transfer S (91 : Int32)) (f_Mdl_transfer T (91 : Int32)) := by
  rw [ec_5B, em_5B]
  have k := s_loadD h (RRr_0 h)
  rw [RRe_0 h] at k
  refine ⟨rfl, rfl, ?_⟩
  show RR (f_Reg_loadD S (S.1 0)) _
  rw [RRe_0 h]; exact k
theorem ec_5C (S : Sc) : f_Prc_jump S (92 : Int32) = ((1 : Int32), (f_Reg_jumpLong (f_Opd_nextLong S).2 (f_Opd_nextLong S).1)) := rfl
theorem em_5C (T : Sc) : f_Mdl_jump T (92 : Int32) = ((1 : Int32), (pr (pr (f_Mdl_nextLong T).2 7 (((f_Mdl_nextLong T).1 >>> ((16 : Int32) &&& 31)))) 8 (((f_Mdl_nextLong T).1 &&& (65535 : Int32))))) := rfl
theorem o_5C {S T : Sc} (h : RR S T) : KO (f_Prc_jump S (92 : Int32)) (f_Mdl_jump T (92 : Int32)) := by
  rw [ec_5C, em_5C]
  obtain ⟨a1, a2, a3⟩ := s_nl h
  exact ⟨rfl, rfl, R_78 a3 (by rw [a1]) (sh16_8 a2) (by rw [a1]) (m16 _)⟩
theorem ec_5D (S : Sc) : f_Prc_useAccumulator S (93 : Int32) = ((1 : Int32), (f_Reg_loadA (f_Bus_readValue (f_Opd_place S (29 : Int32)).2 (f_Opd_place S (29 : Int32)).1 (f_Reg_wideA S)).2 ((f_Reg_a (f_Bus_readValue (f_Opd_place S (29 : Int32)).2 (f_Opd_place S (29 : Int32)).1 (f_Reg_wideA S)).2) ^^^ (f_Bus_readValue (f_Opd_place S (29 : Int32)).2 (f_Opd_place S (29 : Int32)).1 (f_Reg_wideA S)).1))) := rfl
theorem em_5D (T : Sc) : f_Mdl_arithmetic T (93 : Int32) = ((1 : Int32), (f_Mdl_setAccumulator (f_Mdl_result (f_Mdl_load (f_Mdl_find T (29 : Int32)).2 (f_Mdl_is T (32 : Int32))).2 ((f_Mdl_accumulator (f_Mdl_load (f_Mdl_find T (29 : Int32)).2 (f_Mdl_is T (32 : Int32))).2) ^^^ (f_Mdl_load (f_Mdl_find T (29 : Int32)).2 (f_Mdl_is T (32 : Int32))).1) (f_Mdl_is T (32 : Int32))).2 (f_Mdl_result (f_Mdl_load (f_Mdl_find T (29 : Int32)).2 (f_Mdl_is T (32 : Int32))).2 ((f_Mdl_accumulator (f_Mdl_load (f_Mdl_find T (29 : Int32)).2 (f_Mdl_is T (32 : Int32))).2) ^^^ (f_Mdl_load (f_Mdl_find T (29 : Int32)).2 (f_Mdl_is T (32 : Int32))).1) (f_Mdl_is T (32 : Int32))).1)) := by
  have e : f_Mdl_arithmetic T (93 : Int32) = if (f_Mdl_find T (29 : Int32)).1 = (0 : Int32) then (((0 : Int32), (f_Mdl_find T (29 : Int32)).2)) else (((1 : Int32), (f_Mdl_setAccumulator (f_Mdl_result (f_Mdl_load (f_Mdl_find T (29 : Int32)).2 (f_Mdl_is T (32 : Int32))).2 ((f_Mdl_accumulator (f_Mdl_load (f_Mdl_find T (29 : Int32)).2 (f_Mdl_is T (32 : Int32))).2) ^^^ (f_Mdl_load (f_Mdl_find T (29 : Int32)).2 (f_Mdl_is T (32 : Int32))).1) (f_Mdl_is T (32 : Int32))).2 (f_Mdl_result (f_Mdl_load (f_Mdl_find T (29 : Int32)).2 (f_Mdl_is T (32 : Int32))).2 ((f_Mdl_accumulator (f_Mdl_load (f_Mdl_find T (29 : Int32)).2 (f_Mdl_is T (32 : Int32))).2) ^^^ (f_Mdl_load (f_Mdl_find T (29 : Int32)).2 (f_Mdl_is T (32 : Int32))).1) (f_Mdl_is T (32 : Int32))).1))) := rfl
  rw [e, fd1_29, if_neg (by decide : ¬ (1 : Int32) = 0)]
theorem o_5D {S T : Sc} (h : RR S T) : KO (f_Prc_useAccumulator S (93 : Int32)) (f_Mdl_arithmetic T (93 : Int32)) := by
  rw [ec_5D, em_5D]
  obtain ⟨f1, f2, f3, f4⟩ := sp_29 h
  obtain ⟨l1, l2, l3⟩ := s_load f2 f3 (WN_A h)
  have lf := (fr_rv (S := (f_Opd_place S 29).2) (c := (f_Opd_place S 29).1) (WN_A h)).trans f4
  have hw := WN_fr h lf
  exact ⟨rfl, rfl, s_setA2 l3 hw (by rw [acc_eq l3, l1])⟩
theorem ec_5F (S : Sc) : f_Prc_useAccumulator S (95 : Int32) = ((1 : Int32), (f_Reg_loadA (f_Bus_readValue (f_Opd_place S (31 : Int32)).2 (f_Opd_place S (31 : Int32)).1 (f_Reg_wideA S)).2 ((f_Reg_a (f_Bus_readValue (f_Opd_place S (31 : Int32)).2 (f_Opd_place S (31 : Int32)).1 (f_Reg_wideA S)).2) ^^^ (f_Bus_readValue (f_Opd_place S (31 : Int32)).2 (f_Opd_place S (31 : Int32)).1 (f_Reg_wideA S)).1))) := rfl
theorem em_5F (T : Sc) : f_Mdl_arithmetic T (95 : Int32) = ((1 : Int32), (f_Mdl_setAccumulator (f_Mdl_result (f_Mdl_load (f_Mdl_find T (31 : Int32)).2 (f_Mdl_is T (32 : Int32))).2 ((f_Mdl_accumulator (f_Mdl_load (f_Mdl_find T (31 : Int32)).2 (f_Mdl_is T (32 : Int32))).2) ^^^ (f_Mdl_load (f_Mdl_find T (31 : Int32)).2 (f_Mdl_is T (32 : Int32))).1) (f_Mdl_is T (32 : Int32))).2 (f_Mdl_result (f_Mdl_load (f_Mdl_find T (31 : Int32)).2 (f_Mdl_is T (32 : Int32))).2 ((f_Mdl_accumulator (f_Mdl_load (f_Mdl_find T (31 : Int32)).2 (f_Mdl_is T (32 : Int32))).2) ^^^ (f_Mdl_load (f_Mdl_find T (31 : Int32)).2 (f_Mdl_is T (32 : Int32))).1) (f_Mdl_is T (32 : Int32))).1)) := by
  have e : f_Mdl_arithmetic T (95 : Int32) = if (f_Mdl_find T (31 : Int32)).1 = (0 : Int32) then (((0 : Int32), (f_Mdl_find T (31 : Int32)).2)) else (((1 : Int32), (f_Mdl_setAccumulator (f_Mdl_result (f_Mdl_load (f_Mdl_find T (31 : Int32)).2 (f_Mdl_is T (32 : Int32))).2 ((f_Mdl_accumulator (f_Mdl_load (f_Mdl_find T (31 : Int32)).2 (f_Mdl_is T (32 : Int32))).2) ^^^ (f_Mdl_load (f_Mdl_find T (31 : Int32)).2 (f_Mdl_is T (32 : Int32))).1) (f_Mdl_is T (32 : Int32))).2 (f_Mdl_result (f_Mdl_load (f_Mdl_find T (31 : Int32)).2 (f_Mdl_is T (32 : Int32))).2 ((f_Mdl_accumulator (f_Mdl_load (f_Mdl_find T (31 : Int32)).2 (f_Mdl_is T (32 : Int32))).2) ^^^ (f_Mdl_load (f_Mdl_find T (31 : Int32)).2 (f_Mdl_is T (32 : Int32))).1) (f_Mdl_is T (32 : Int32))).1))) := rfl
  rw [e, fd1_31, if_neg (by decide : ¬ (1 : Int32) = 0)]
theorem o_5F {S T : Sc} (h : RR S T) : KO (f_Prc_useAccumulator S (95 : Int32)) (f_Mdl_arithmetic T (95 : Int32)) := by
  rw [ec_5F, em_5F]
  obtain ⟨f1, f2, f3, f4⟩ := sp_31 h
  obtain ⟨l1, l2, l3⟩ := s_load f2 f3 (WN_A h)
  have lf := (fr_rv (S := (f_Opd_place S 31).2) (c := (f_Opd_place S 31).1) (WN_A h)).trans f4
  have hw := WN_fr h lf
  exact ⟨rfl, rfl, s_setA2 l3 hw (by rw [acc_eq l3, l1])⟩
theorem ec_60 (S : Sc) : f_Prc_jump S (96 : Int32) = ((1 : Int32), (f_Reg_jumpTo (f_Stk_pullWord S).2 ((f_Stk_pullWord S).1 + (1 : Int32)))) := rfl
theorem em_60 (T : Sc) : f_Mdl_jump T (96 : Int32) = ((1 : Int32), (pr (f_Mdl_pullWord T).2 8 ((((f_Mdl_pullWord T).1 + (1 : Int32)) &&& (65535 : Int32))))) := rfl
theorem o_60 {S T : Sc} (h : RR S T) : KO (f_Prc_jump S (96 : Int32)) (f_Mdl_jump T (96 : Int32)) := by
  rw [ec_60, em_60]
  obtain ⟨a1, a2, a3⟩ := s_pullW h
  exact ⟨rfl, rfl, s_jump a3 (by rw [a1])⟩
theorem ec_61 (S : Sc) : f_Prc_useAccumulator S (97 : Int32) = ((1 : Int32), (f_Prc_addToA (f_Bus_readValue (f_Opd_place S (1 : Int32)).2 (f_Opd_place S (1 : Int32)).1 (f_Reg_wideA S)).2 (f_Bus_readValue (f_Opd_place S (1 : Int32)).2 (f_Opd_place S (1 : Int32)).1 (f_Reg_wideA S)).1)) := rfl
theorem em_61 (T : Sc) : f_Mdl_arithmetic T (97 : Int32) = ((1 : Int32), (f_Mdl_add (f_Mdl_load (f_Mdl_find T (1 : Int32)).2 (f_Mdl_is T (32 : Int32))).2 (f_Mdl_load (f_Mdl_find T (1 : Int32)).2 (f_Mdl_is T (32 : Int32))).1)) := by
  have e : f_Mdl_arithmetic T (97 : Int32) = if (f_Mdl_find T (1 : Int32)).1 = (0 : Int32) then (((0 : Int32), (f_Mdl_find T (1 : Int32)).2)) else (((1 : Int32), (f_Mdl_add (f_Mdl_load (f_Mdl_find T (1 : Int32)).2 (f_Mdl_is T (32 : Int32))).2 (f_Mdl_load (f_Mdl_find T (1 : Int32)).2 (f_Mdl_is T (32 : Int32))).1))) := rfl
  rw [e, fd1_1, if_neg (by decide : ¬ (1 : Int32) = 0)]
theorem o_61 {S T : Sc} (h : RR S T) : KO (f_Prc_useAccumulator S (97 : Int32)) (f_Mdl_arithmetic T (97 : Int32)) := by
  rw [ec_61, em_61]
  obtain ⟨f1, f2, f3, f4⟩ := sp_1 h
  obtain ⟨l1, l2, l3⟩ := s_load f2 f3 (WN_A h)
  have lf := (fr_rv (S := (f_Opd_place S 1).2) (c := (f_Opd_place S 1).1) (WN_A h)).trans f4
  have hw := WN_fr h lf
  exact ⟨rfl, rfl, s_add2 l3 l1⟩
theorem ec_63 (S : Sc) : f_Prc_useAccumulator S (99 : Int32) = ((1 : Int32), (f_Prc_addToA (f_Bus_readValue (f_Opd_place S (3 : Int32)).2 (f_Opd_place S (3 : Int32)).1 (f_Reg_wideA S)).2 (f_Bus_readValue (f_Opd_place S (3 : Int32)).2 (f_Opd_place S (3 : Int32)).1 (f_Reg_wideA S)).1)) := rfl
theorem em_63 (T : Sc) : f_Mdl_arithmetic T (99 : Int32) = ((1 : Int32), (f_Mdl_add (f_Mdl_load (f_Mdl_find T (3 : Int32)).2 (f_Mdl_is T (32 : Int32))).2 (f_Mdl_load (f_Mdl_find T (3 : Int32)).2 (f_Mdl_is T (32 : Int32))).1)) := by
  have e : f_Mdl_arithmetic T (99 : Int32) = if (f_Mdl_find T (3 : Int32)).1 = (0 : Int32) then (((0 : Int32), (f_Mdl_find T (3 : Int32)).2)) else (((1 : Int32), (f_Mdl_add (f_Mdl_load (f_Mdl_find T (3 : Int32)).2 (f_Mdl_is T (32 : Int32))).2 (f_Mdl_load (f_Mdl_find T (3 : Int32)).2 (f_Mdl_is T (32 : Int32))).1))) := rfl
  rw [e, fd1_3, if_neg (by decide : ¬ (1 : Int32) = 0)]
theorem o_63 {S T : Sc} (h : RR S T) : KO (f_Prc_useAccumulator S (99 : Int32)) (f_Mdl_arithmetic T (99 : Int32)) := by
  rw [ec_63, em_63]
  obtain ⟨f1, f2, f3, f4⟩ := sp_3 h
  obtain ⟨l1, l2, l3⟩ := s_load f2 f3 (WN_A h)
  have lf := (fr_rv (S := (f_Opd_place S 3).2) (c := (f_Opd_place S 3).1) (WN_A h)).trans f4
  have hw := WN_fr h lf
  exact ⟨rfl, rfl, s_add2 l3 l1⟩
theorem ec_64 (S : Sc) : f_Prc_storeZero S (100 : Int32) = ((1 : Int32), (f_Bus_writeValue (f_Opd_place S (5 : Int32)).2 (f_Opd_place S (5 : Int32)).1 (0 : Int32) (f_Reg_wideA (f_Opd_place S (5 : Int32)).2))) := rfl
theorem em_64 (T : Sc) : f_Mdl_index T (100 : Int32) = ((1 : Int32), (f_Mdl_storeAt T (0 : Int32) (0 : Int32) (f_Mdl_is T (32 : Int32)))) := rfl
theorem o_64 {S T : Sc} (h : RR S T) : KO (f_Prc_storeZero S (100 : Int32)) (f_Mdl_index T (100 : Int32)) := by
  rw [ec_64, em_64]
  obtain ⟨f2, f3, f4, f5⟩ := sp_fi h 5 0 (Or.inl ⟨rfl, rfl⟩)
  rw [sa_eq]
  exact ⟨rfl, rfl, s_store f2 f3 (WN_fr h f4) rfl (fun _ => rfl)⟩
theorem ec_65 (S : Sc) : f_Prc_useAccumulator S (101 : Int32) = ((1 : Int32), (f_Prc_addToA (f_Bus_readValue (f_Opd_place S (5 : Int32)).2 (f_Opd_place S (5 : Int32)).1 (f_Reg_wideA S)).2 (f_Bus_readValue (f_Opd_place S (5 : Int32)).2 (f_Opd_place S (5 : Int32)).1 (f_Reg_wideA S)).1)) := rfl
theorem em_65 (T : Sc) : f_Mdl_arithmetic T (101 : Int32) = ((1 : Int32), (f_Mdl_add (f_Mdl_load (f_Mdl_find T (5 : Int32)).2 (f_Mdl_is T (32 : Int32))).2 (f_Mdl_load (f_Mdl_find T (5 : Int32)).2 (f_Mdl_is T (32 : Int32))).1)) := by
  have e : f_Mdl_arithmetic T (101 : Int32) = if (f_Mdl_find T (5 : Int32)).1 = (0 : Int32) then (((0 : Int32), (f_Mdl_find T (5 : Int32)).2)) else (((1 : Int32), (f_Mdl_add (f_Mdl_load (f_Mdl_find T (5 : Int32)).2 (f_Mdl_is T (32 : Int32))).2 (f_Mdl_load (f_Mdl_find T (5 : Int32)).2 (f_Mdl_is T (32 : Int32))).1))) := rfl
  rw [e, fd1_5, if_neg (by decide : ¬ (1 : Int32) = 0)]
theorem o_65 {S T : Sc} (h : RR S T) : KO (f_Prc_useAccumulator S (101 : Int32)) (f_Mdl_arithmetic T (101 : Int32)) := by
  rw [ec_65, em_65]
  obtain ⟨f1, f2, f3, f4⟩ := sp_5 h
  obtain ⟨l1, l2, l3⟩ := s_load f2 f3 (WN_A h)
  have lf := (fr_rv (S := (f_Opd_place S 5).2) (c := (f_Opd_place S 5).1) (WN_A h)).trans f4
  have hw := WN_fr h lf
  exact ⟨rfl, rfl, s_add2 l3 l1⟩
theorem ec_66 (S : Sc) : f_Prc_changeMemory S (102 : Int32) = ((1 : Int32), (f_Bus_writeValue (f_Reg_showResult (f_Prc_changed (f_Bus_readValue (f_Opd_place S (5 : Int32)).2 (f_Opd_place S (5 : Int32)).1 (f_Reg_wideA S)).2 (3 : Int32) (f_Bus_readValue (f_Opd_place S (5 : Int32)).2 (f_Opd_place S (5 : Int32)).1 (f_Reg_wideA S)).1 (f_Reg_wideA S)).2 (f_Prc_changed (f_Bus_readValue (f_Opd_place S (5 : Int32)).2 (f_Opd_place S (5 : Int32)).1 (f_Reg_wideA S)).2 (3 : Int32) (f_Bus_readValue (f_Opd_place S (5 : Int32)).2 (f_Opd_place S (5 : Int32)).1 (f_Reg_wideA S)).1 (f_Reg_wideA S)).1 (f_Reg_wideA S)) (f_Opd_place S (5 : Int32)).1 (f_Prc_changed (f_Bus_readValue (f_Opd_place S (5 : Int32)).2 (f_Opd_place S (5 : Int32)).1 (f_Reg_wideA S)).2 (3 : Int32) (f_Bus_readValue (f_Opd_place S (5 : Int32)).2 (f_Opd_place S (5 : Int32)).1 (f_Reg_wideA S)).1 (f_Reg_wideA S)).1 (f_Reg_wideA S))) := rfl
theorem em_66 (T : Sc) : f_Mdl_change T (102 : Int32) = ((1 : Int32), (f_Mdl_changeMemory T (5 : Int32) (0 : Int32))) := rfl
theorem o_66 {S T : Sc} (h : RR S T) : KO (f_Prc_changeMemory S (102 : Int32)) (f_Mdl_change T (102 : Int32)) := by
  rw [ec_66, em_66]
  exact ⟨rfl, rfl, s_cm h 5 0 (Or.inl ⟨rfl, rfl⟩) (cm0 T 5) (fun {S T : Sc} {v w n : Int32} => sc_3)⟩
theorem ec_67 (S : Sc) : f_Prc_useAccumulator S (103 : Int32) = ((1 : Int32), (f_Prc_addToA (f_Bus_readValue (f_Opd_place S (7 : Int32)).2 (f_Opd_place S (7 : Int32)).1 (f_Reg_wideA S)).2 (f_Bus_readValue (f_Opd_place S (7 : Int32)).2 (f_Opd_place S (7 : Int32)).1 (f_Reg_wideA S)).1)) := rfl
theorem em_67 (T : Sc) : f_Mdl_arithmetic T (103 : Int32) = ((1 : Int32), (f_Mdl_add (f_Mdl_load (f_Mdl_find T (7 : Int32)).2 (f_Mdl_is T (32 : Int32))).2 (f_Mdl_load (f_Mdl_find T (7 : Int32)).2 (f_Mdl_is T (32 : Int32))).1)) := by
  have e : f_Mdl_arithmetic T (103 : Int32) = if (f_Mdl_find T (7 : Int32)).1 = (0 : Int32) then (((0 : Int32), (f_Mdl_find T (7 : Int32)).2)) else (((1 : Int32), (f_Mdl_add (f_Mdl_load (f_Mdl_find T (7 : Int32)).2 (f_Mdl_is T (32 : Int32))).2 (f_Mdl_load (f_Mdl_find T (7 : Int32)).2 (f_Mdl_is T (32 : Int32))).1))) := rfl
  rw [e, fd1_7, if_neg (by decide : ¬ (1 : Int32) = 0)]
theorem o_67 {S T : Sc} (h : RR S T) : KO (f_Prc_useAccumulator S (103 : Int32)) (f_Mdl_arithmetic T (103 : Int32)) := by
  rw [ec_67, em_67]
  obtain ⟨f1, f2, f3, f4⟩ := sp_7 h
  obtain ⟨l1, l2, l3⟩ := s_load f2 f3 (WN_A h)
  have lf := (fr_rv (S := (f_Opd_place S 7).2) (c := (f_Opd_place S 7).1) (WN_A h)).trans f4
  have hw := WN_fr h lf
  exact ⟨rfl, rfl, s_add2 l3 l1⟩
theorem ec_68 (S : Sc) : f_Prc_pull S (104 : Int32) = ((1 : Int32), (f_Reg_loadA (f_Stk_pullValue S (f_Reg_wideA S)).2 (f_Stk_pullValue S (f_Reg_wideA S)).1)) := rfl
theorem em_68 (T : Sc) : f_Mdl_stack T (104 : Int32) = ((1 : Int32), (f_Mdl_setAccumulator (f_Mdl_pullOf T (f_Mdl_is T (32 : Int32))).2 (f_Mdl_pullOf T (f_Mdl_is T (32 : Int32))).1)) := rfl
theorem o_68 {S T : Sc} (h : RR S T) : KO (f_Prc_pull S (104 : Int32)) (f_Mdl_stack T (104 : Int32)) := by
  rw [ec_68, em_68]
  obtain ⟨r, T2, q1, q2, q3, q4⟩ := s_pv h (WN_A h)
  rw [q1]
  exact ⟨rfl, rfl, s_setA2 q3 (WN_fr h q4) q2⟩
theorem ec_69 (S : Sc) : f_Prc_useAccumulator S (105 : Int32) = ((1 : Int32), (f_Prc_addToA (f_Opd_nextValue S (f_Reg_wideA S)).2 (f_Opd_nextValue S (f_Reg_wideA S)).1)) := rfl
theorem em_69 (T : Sc) : f_Mdl_arithmetic T (105 : Int32) = ((1 : Int32), (f_Mdl_add (f_Mdl_immediate T (f_Mdl_is T (32 : Int32))).2 (f_Mdl_immediate T (f_Mdl_is T (32 : Int32))).1)) := rfl
theorem o_69 {S T : Sc} (h : RR S T) : KO (f_Prc_useAccumulator S (105 : Int32)) (f_Mdl_arithmetic T (105 : Int32)) := by
  rw [ec_69, em_69]
  obtain ⟨l1, l2, l3⟩ := s_nv h (WN_A h)
  have lf := fr_nv (S := S) (WN_A h)
  have hw := WN_fr h lf
  exact ⟨rfl, rfl, s_add2 l3 l1⟩
theorem ec_6A (S : Sc) : f_Prc_changeRegister S (106 : Int32) = ((1 : Int32), (f_Reg_loadA (f_Prc_changed S (3 : Int32) (f_Reg_a S) (f_Reg_wideA S)).2 (f_Prc_changed S (3 : Int32) (f_Reg_a S) (f_Reg_wideA S)).1)) := rfl
theorem em_6A (T : Sc) : f_Mdl_change T (106 : Int32) = ((1 : Int32), (f_Mdl_setAccumulator (f_Mdl_changed T (5 : Int32) (f_Mdl_accumulator T) (f_Mdl_is T (32 : Int32))).2 (f_Mdl_changed T (5 : Int32) (f_Mdl_accumulator T) (f_Mdl_is T (32 : Int32))).1)) := rfl
theorem o_6A {S T : Sc} (h : RR S T) : KO (f_Prc_changeRegister S (106 : Int32)) (f_Mdl_change T (106 : Int32)) := by
  rw [ec_6A, em_6A]
  obtain ⟨T2, Ex, q1, q2, q3, q4, -, -⟩ := sc_3 h (WN_A h) (a_rg S)
  rw [← acc_eq h, q1]
  exact ⟨rfl, rfl, s_setA3 q2 (WN_b h q4) (WN_A h) (wA_b q4) q3⟩
theorem ec_6B (S : Sc) : f_Prc_jump S (107 : Int32) = ((1 : Int32), (pr (f_Stk_pullByte (f_Reg_jumpTo (f_Stk_pullWord S).2 ((f_Stk_pullWord S).1 + (1 : Int32)))).2 6 ((f_Stk_pullByte (f_Reg_jumpTo (f_Stk_pullWord S).2 ((f_Stk_pullWord S).1 + (1 : Int32)))).1))) := rfl
theorem em_6B (T : Sc) : f_Mdl_jump T (107 : Int32) = ((1 : Int32), (pr (f_Mdl_pull (pr (f_Mdl_pullWord T).2 8 ((((f_Mdl_pullWord T).1 + (1 : Int32)) &&& (65535 : Int32))))).2 7 ((f_Mdl_pull (pr (f_Mdl_pullWord T).2 8 ((((f_Mdl_pullWord T).1 + (1 : Int32)) &&& (65535 : Int32))))).1))) := rfl
theorem o_6B {S T : Sc} (h : RR S T) : KO (f_Prc_jump S (107 : Int32)) (f_Mdl_jump T (107 : Int32)) := by
  rw [ec_6B, em_6B]
  obtain ⟨a1, a2, a3⟩ := s_pullW h
  have b := s_jump (v := (f_Stk_pullWord S).1 + 1) (v2 := ((f_Mdl_pullWord T).1 + 1) &&& 65535) a3 (by rw [a1])
  obtain ⟨c1, c2, c3⟩ := s_pull b
  exact ⟨rfl, rfl, R_6 c3 c1 c2⟩
theorem ec_6D (S : Sc) : f_Prc_useAccumulator S (109 : Int32) = ((1 : Int32), (f_Prc_addToA (f_Bus_readValue (f_Opd_place S (13 : Int32)).2 (f_Opd_place S (13 : Int32)).1 (f_Reg_wideA S)).2 (f_Bus_readValue (f_Opd_place S (13 : Int32)).2 (f_Opd_place S (13 : Int32)).1 (f_Reg_wideA S)).1)) := rfl
theorem em_6D (T : Sc) : f_Mdl_arithmetic T (109 : Int32) = ((1 : Int32), (f_Mdl_add (f_Mdl_load (f_Mdl_find T (13 : Int32)).2 (f_Mdl_is T (32 : Int32))).2 (f_Mdl_load (f_Mdl_find T (13 : Int32)).2 (f_Mdl_is T (32 : Int32))).1)) := by
  have e : f_Mdl_arithmetic T (109 : Int32) = if (f_Mdl_find T (13 : Int32)).1 = (0 : Int32) then (((0 : Int32), (f_Mdl_find T (13 : Int32)).2)) else (((1 : Int32), (f_Mdl_add (f_Mdl_load (f_Mdl_find T (13 : Int32)).2 (f_Mdl_is T (32 : Int32))).2 (f_Mdl_load (f_Mdl_find T (13 : Int32)).2 (f_Mdl_is T (32 : Int32))).1))) := rfl
  rw [e, fd1_13, if_neg (by decide : ¬ (1 : Int32) = 0)]
theorem o_6D {S T : Sc} (h : RR S T) : KO (f_Prc_useAccumulator S (109 : Int32)) (f_Mdl_arithmetic T (109 : Int32)) := by
  rw [ec_6D, em_6D]
  obtain ⟨f1, f2, f3, f4⟩ := sp_13 h
  obtain ⟨l1, l2, l3⟩ := s_load f2 f3 (WN_A h)
  have lf := (fr_rv (S := (f_Opd_place S 13).2) (c := (f_Opd_place S 13).1) (WN_A h)).trans f4
  have hw := WN_fr h lf
  exact ⟨rfl, rfl, s_add2 l3 l1⟩
theorem ec_6F (S : Sc) : f_Prc_useAccumulator S (111 : Int32) = ((1 : Int32), (f_Prc_addToA (f_Bus_readValue (f_Opd_place S (15 : Int32)).2 (f_Opd_place S (15 : Int32)).1 (f_Reg_wideA S)).2 (f_Bus_readValue (f_Opd_place S (15 : Int32)).2 (f_Opd_place S (15 : Int32)).1 (f_Reg_wideA S)).1)) := rfl
theorem em_6F (T : Sc) : f_Mdl_arithmetic T (111 : Int32) = ((1 : Int32), (f_Mdl_add (f_Mdl_load (f_Mdl_find T (15 : Int32)).2 (f_Mdl_is T (32 : Int32))).2 (f_Mdl_load (f_Mdl_find T (15 : Int32)).2 (f_Mdl_is T (32 : Int32))).1)) := by
  have e : f_Mdl_arithmetic T (111 : Int32) = if (f_Mdl_find T (15 : Int32)).1 = (0 : Int32) then (((0 : Int32), (f_Mdl_find T (15 : Int32)).2)) else (((1 : Int32), (f_Mdl_add (f_Mdl_load (f_Mdl_find T (15 : Int32)).2 (f_Mdl_is T (32 : Int32))).2 (f_Mdl_load (f_Mdl_find T (15 : Int32)).2 (f_Mdl_is T (32 : Int32))).1))) := rfl
  rw [e, fd1_15, if_neg (by decide : ¬ (1 : Int32) = 0)]
theorem o_6F {S T : Sc} (h : RR S T) : KO (f_Prc_useAccumulator S (111 : Int32)) (f_Mdl_arithmetic T (111 : Int32)) := by
  rw [ec_6F, em_6F]
  obtain ⟨f1, f2, f3, f4⟩ := sp_15 h
  obtain ⟨l1, l2, l3⟩ := s_load f2 f3 (WN_A h)
  have lf := (fr_rv (S := (f_Opd_place S 15).2) (c := (f_Opd_place S 15).1) (WN_A h)).trans f4
  have hw := WN_fr h lf
  exact ⟨rfl, rfl, s_add2 l3 l1⟩
theorem ec_70 (S : Sc) : f_Prc_branch S (112 : Int32) = if (f_Reg_has (f_Opd_nextByte S).2 (bf ((1 : Int32)).toNatClampNeg)) = (1 : Int32) then (((1 : Int32), (f_Reg_jumpTo (f_Opd_nextByte S).2 (((f_Opd_nextByte S).2.1 7) + (((f_Opd_nextByte S).1).toInt8.toInt32))))) else (((1 : Int32), (f_Opd_nextByte S).2)) := rfl
theorem em_70 (T : Sc) : f_Mdl_jump T (112 : Int32) = ((1 : Int32), (f_Mdl_branch T (f_Mdl_is T (64 : Int32)))) := rfl
theorem o_70 {S T : Sc} (h : RR S T) : KO (f_Prc_branch S (112 : Int32)) (f_Mdl_jump T (112 : Int32)) := by
  rw [ec_70, em_70]
  have e : f_Reg_has (f_Opd_nextByte S).2 (64 : Int32) = f_Mdl_is T (64 : Int32) := has_n h (64 : Int32)
  have eb : bf (1 : Int32).toNatClampNeg = (64 : Int32) := rfl
  rw [eb, e]
  have b := s_br (x := f_Mdl_is T 64) h
  by_cases z : f_Mdl_is T (64 : Int32) = (1 : Int32)
  · rw [if_pos z]; exact ⟨rfl, rfl, b.1 (by rw [z]; decide)⟩
  · rw [if_neg z]; exact ⟨rfl, rfl, b.2 (is_01 z)⟩
theorem ec_71 (S : Sc) : f_Prc_useAccumulator S (113 : Int32) = ((1 : Int32), (f_Prc_addToA (f_Bus_readValue (f_Opd_place S (17 : Int32)).2 (f_Opd_place S (17 : Int32)).1 (f_Reg_wideA S)).2 (f_Bus_readValue (f_Opd_place S (17 : Int32)).2 (f_Opd_place S (17 : Int32)).1 (f_Reg_wideA S)).1)) := rfl
theorem em_71 (T : Sc) : f_Mdl_arithmetic T (113 : Int32) = ((1 : Int32), (f_Mdl_add (f_Mdl_load (f_Mdl_find T (17 : Int32)).2 (f_Mdl_is T (32 : Int32))).2 (f_Mdl_load (f_Mdl_find T (17 : Int32)).2 (f_Mdl_is T (32 : Int32))).1)) := by
  have e : f_Mdl_arithmetic T (113 : Int32) = if (f_Mdl_find T (17 : Int32)).1 = (0 : Int32) then (((0 : Int32), (f_Mdl_find T (17 : Int32)).2)) else (((1 : Int32), (f_Mdl_add (f_Mdl_load (f_Mdl_find T (17 : Int32)).2 (f_Mdl_is T (32 : Int32))).2 (f_Mdl_load (f_Mdl_find T (17 : Int32)).2 (f_Mdl_is T (32 : Int32))).1))) := rfl
  rw [e, fd1_17, if_neg (by decide : ¬ (1 : Int32) = 0)]
theorem o_71 {S T : Sc} (h : RR S T) : KO (f_Prc_useAccumulator S (113 : Int32)) (f_Mdl_arithmetic T (113 : Int32)) := by
  rw [ec_71, em_71]
  obtain ⟨f1, f2, f3, f4⟩ := sp_17 h
  obtain ⟨l1, l2, l3⟩ := s_load f2 f3 (WN_A h)
  have lf := (fr_rv (S := (f_Opd_place S 17).2) (c := (f_Opd_place S 17).1) (WN_A h)).trans f4
  have hw := WN_fr h lf
  exact ⟨rfl, rfl, s_add2 l3 l1⟩
theorem ec_72 (S : Sc) : f_Prc_useAccumulator S (114 : Int32) = ((1 : Int32), (f_Prc_addToA (f_Bus_readValue (f_Opd_place S (18 : Int32)).2 (f_Opd_place S (18 : Int32)).1 (f_Reg_wideA S)).2 (f_Bus_readValue (f_Opd_place S (18 : Int32)).2 (f_Opd_place S (18 : Int32)).1 (f_Reg_wideA S)).1)) := rfl
theorem em_72 (T : Sc) : f_Mdl_arithmetic T (114 : Int32) = ((1 : Int32), (f_Mdl_add (f_Mdl_load (f_Mdl_find T (18 : Int32)).2 (f_Mdl_is T (32 : Int32))).2 (f_Mdl_load (f_Mdl_find T (18 : Int32)).2 (f_Mdl_is T (32 : Int32))).1)) := by
  have e : f_Mdl_arithmetic T (114 : Int32) = if (f_Mdl_find T (18 : Int32)).1 = (0 : Int32) then (((0 : Int32), (f_Mdl_find T (18 : Int32)).2)) else (((1 : Int32), (f_Mdl_add (f_Mdl_load (f_Mdl_find T (18 : Int32)).2 (f_Mdl_is T (32 : Int32))).2 (f_Mdl_load (f_Mdl_find T (18 : Int32)).2 (f_Mdl_is T (32 : Int32))).1))) := rfl
  rw [e, fd1_18, if_neg (by decide : ¬ (1 : Int32) = 0)]
theorem o_72 {S T : Sc} (h : RR S T) : KO (f_Prc_useAccumulator S (114 : Int32)) (f_Mdl_arithmetic T (114 : Int32)) := by
  rw [ec_72, em_72]
  obtain ⟨f1, f2, f3, f4⟩ := sp_18 h
  obtain ⟨l1, l2, l3⟩ := s_load f2 f3 (WN_A h)
  have lf := (fr_rv (S := (f_Opd_place S 18).2) (c := (f_Opd_place S 18).1) (WN_A h)).trans f4
  have hw := WN_fr h lf
  exact ⟨rfl, rfl, s_add2 l3 l1⟩
theorem ec_73 (S : Sc) : f_Prc_useAccumulator S (115 : Int32) = ((1 : Int32), (f_Prc_addToA (f_Bus_readValue (f_Opd_place S (19 : Int32)).2 (f_Opd_place S (19 : Int32)).1 (f_Reg_wideA S)).2 (f_Bus_readValue (f_Opd_place S (19 : Int32)).2 (f_Opd_place S (19 : Int32)).1 (f_Reg_wideA S)).1)) := rfl
theorem em_73 (T : Sc) : f_Mdl_arithmetic T (115 : Int32) = ((1 : Int32), (f_Mdl_add (f_Mdl_load (f_Mdl_find T (19 : Int32)).2 (f_Mdl_is T (32 : Int32))).2 (f_Mdl_load (f_Mdl_find T (19 : Int32)).2 (f_Mdl_is T (32 : Int32))).1)) := by
  have e : f_Mdl_arithmetic T (115 : Int32) = if (f_Mdl_find T (19 : Int32)).1 = (0 : Int32) then (((0 : Int32), (f_Mdl_find T (19 : Int32)).2)) else (((1 : Int32), (f_Mdl_add (f_Mdl_load (f_Mdl_find T (19 : Int32)).2 (f_Mdl_is T (32 : Int32))).2 (f_Mdl_load (f_Mdl_find T (19 : Int32)).2 (f_Mdl_is T (32 : Int32))).1))) := rfl
  rw [e, fd1_19, if_neg (by decide : ¬ (1 : Int32) = 0)]
theorem o_73 {S T : Sc} (h : RR S T) : KO (f_Prc_useAccumulator S (115 : Int32)) (f_Mdl_arithmetic T (115 : Int32)) := by
  rw [ec_73, em_73]
  obtain ⟨f1, f2, f3, f4⟩ := sp_19 h
  obtain ⟨l1, l2, l3⟩ := s_load f2 f3 (WN_A h)
  have lf := (fr_rv (S := (f_Opd_place S 19).2) (c := (f_Opd_place S 19).1) (WN_A h)).trans f4
  have hw := WN_fr h lf
  exact ⟨rfl, rfl, s_add2 l3 l1⟩
theorem ec_75 (S : Sc) : f_Prc_useAccumulator S (117 : Int32) = ((1 : Int32), (f_Prc_addToA (f_Bus_readValue (f_Opd_place S (21 : Int32)).2 (f_Opd_place S (21 : Int32)).1 (f_Reg_wideA S)).2 (f_Bus_readValue (f_Opd_place S (21 : Int32)).2 (f_Opd_place S (21 : Int32)).1 (f_Reg_wideA S)).1)) := rfl
theorem em_75 (T : Sc) : f_Mdl_arithmetic T (117 : Int32) = ((1 : Int32), (f_Mdl_add (f_Mdl_load (f_Mdl_find T (21 : Int32)).2 (f_Mdl_is T (32 : Int32))).2 (f_Mdl_load (f_Mdl_find T (21 : Int32)).2 (f_Mdl_is T (32 : Int32))).1)) := by
  have e : f_Mdl_arithmetic T (117 : Int32) = if (f_Mdl_find T (21 : Int32)).1 = (0 : Int32) then (((0 : Int32), (f_Mdl_find T (21 : Int32)).2)) else (((1 : Int32), (f_Mdl_add (f_Mdl_load (f_Mdl_find T (21 : Int32)).2 (f_Mdl_is T (32 : Int32))).2 (f_Mdl_load (f_Mdl_find T (21 : Int32)).2 (f_Mdl_is T (32 : Int32))).1))) := rfl
  rw [e, fd1_21, if_neg (by decide : ¬ (1 : Int32) = 0)]
theorem o_75 {S T : Sc} (h : RR S T) : KO (f_Prc_useAccumulator S (117 : Int32)) (f_Mdl_arithmetic T (117 : Int32)) := by
  rw [ec_75, em_75]
  obtain ⟨f1, f2, f3, f4⟩ := sp_21 h
  obtain ⟨l1, l2, l3⟩ := s_load f2 f3 (WN_A h)
  have lf := (fr_rv (S := (f_Opd_place S 21).2) (c := (f_Opd_place S 21).1) (WN_A h)).trans f4
  have hw := WN_fr h lf
  exact ⟨rfl, rfl, s_add2 l3 l1⟩
theorem ec_77 (S : Sc) : f_Prc_useAccumulator S (119 : Int32) = ((1 : Int32), (f_Prc_addToA (f_Bus_readValue (f_Opd_place S (23 : Int32)).2 (f_Opd_place S (23 : Int32)).1 (f_Reg_wideA S)).2 (f_Bus_readValue (f_Opd_place S (23 : Int32)).2 (f_Opd_place S (23 : Int32)).1 (f_Reg_wideA S)).1)) := rfl
theorem em_77 (T : Sc) : f_Mdl_arithmetic T (119 : Int32) = ((1 : Int32), (f_Mdl_add (f_Mdl_load (f_Mdl_find T (23 : Int32)).2 (f_Mdl_is T (32 : Int32))).2 (f_Mdl_load (f_Mdl_find T (23 : Int32)).2 (f_Mdl_is T (32 : Int32))).1)) := by
  have e : f_Mdl_arithmetic T (119 : Int32) = if (f_Mdl_find T (23 : Int32)).1 = (0 : Int32) then (((0 : Int32), (f_Mdl_find T (23 : Int32)).2)) else (((1 : Int32), (f_Mdl_add (f_Mdl_load (f_Mdl_find T (23 : Int32)).2 (f_Mdl_is T (32 : Int32))).2 (f_Mdl_load (f_Mdl_find T (23 : Int32)).2 (f_Mdl_is T (32 : Int32))).1))) := rfl
  rw [e, fd1_23, if_neg (by decide : ¬ (1 : Int32) = 0)]
theorem o_77 {S T : Sc} (h : RR S T) : KO (f_Prc_useAccumulator S (119 : Int32)) (f_Mdl_arithmetic T (119 : Int32)) := by
  rw [ec_77, em_77]
  obtain ⟨f1, f2, f3, f4⟩ := sp_23 h
  obtain ⟨l1, l2, l3⟩ := s_load f2 f3 (WN_A h)
  have lf := (fr_rv (S := (f_Opd_place S 23).2) (c := (f_Opd_place S 23).1) (WN_A h)).trans f4
  have hw := WN_fr h lf
  exact ⟨rfl, rfl, s_add2 l3 l1⟩
theorem ec_78 (S : Sc) : f_Prc_changeFlags S (120 : Int32) = ((1 : Int32), (f_Reg_putFlag S (4 : Int32) (1 : Int32))) := rfl
theorem em_78 (T : Sc) : f_Mdl_other T (120 : Int32) = ((1 : Int32), (f_Mdl_flag T (4 : Int32) (1 : Int32))) := rfl
theorem o_78 {S T : Sc} (h : RR S T) : KO (f_Prc_changeFlags S (120 : Int32)) (f_Mdl_other T (120 : Int32)) := by
  rw [ec_78, em_78]
  exact ⟨rfl, rfl, s_flag h 4 1 (by decide)⟩
theorem ec_79 (S : Sc) : f_Prc_useAccumulator S (121 : Int32) = ((1 : Int32), (f_Prc_addToA (f_Bus_readValue (f_Opd_place S (25 : Int32)).2 (f_Opd_place S (25 : Int32)).1 (f_Reg_wideA S)).2 (f_Bus_readValue (f_Opd_place S (25 : Int32)).2 (f_Opd_place S (25 : Int32)).1 (f_Reg_wideA S)).1)) := rfl
theorem em_79 (T : Sc) : f_Mdl_arithmetic T (121 : Int32) = ((1 : Int32), (f_Mdl_add (f_Mdl_load (f_Mdl_find T (25 : Int32)).2 (f_Mdl_is T (32 : Int32))).2 (f_Mdl_load (f_Mdl_find T (25 : Int32)).2 (f_Mdl_is T (32 : Int32))).1)) := by
  have e : f_Mdl_arithmetic T (121 : Int32) = if (f_Mdl_find T (25 : Int32)).1 = (0 : Int32) then (((0 : Int32), (f_Mdl_find T (25 : Int32)).2)) else (((1 : Int32), (f_Mdl_add (f_Mdl_load (f_Mdl_find T (25 : Int32)).2 (f_Mdl_is T (32 : Int32))).2 (f_Mdl_load (f_Mdl_find T (25 : Int32)).2 (f_Mdl_is T (32 : Int32))).1))) := rfl
  rw [e, fd1_25, if_neg (by decide : ¬ (1 : Int32) = 0)]
theorem o_79 {S T : Sc} (h : RR S T) : KO (f_Prc_useAccumulator S (121 : Int32)) (f_Mdl_arithmetic T (121 : Int32)) := by
  rw [ec_79, em_79]
  obtain ⟨f1, f2, f3, f4⟩ := sp_25 h
  obtain ⟨l1, l2, l3⟩ := s_load f2 f3 (WN_A h)
  have lf := (fr_rv (S := (f_Opd_place S 25).2) (c := (f_Opd_place S 25).1) (WN_A h)).trans f4
  have hw := WN_fr h lf
  exact ⟨rfl, rfl, s_add2 l3 l1⟩
theorem ec_7A (S : Sc) : f_Prc_pull S (122 : Int32) = ((1 : Int32), (f_Reg_loadY (f_Stk_pullValue S (f_Reg_wideIndex S)).2 (f_Stk_pullValue S (f_Reg_wideIndex S)).1)) := rfl
theorem em_7A (T : Sc) : f_Mdl_stack T (122 : Int32) = ((1 : Int32), (pr (f_Mdl_pullOf T (f_Mdl_is T (16 : Int32))).2 2 ((f_Mdl_pullOf T (f_Mdl_is T (16 : Int32))).1))) := rfl
theorem o_7A {S T : Sc} (h : RR S T) : KO (f_Prc_pull S (122 : Int32)) (f_Mdl_stack T (122 : Int32)) := by
  rw [ec_7A, em_7A]
  obtain ⟨r, T2, q1, q2, q3, q4⟩ := s_pv h (WN_I h)
  rw [q1]
  exact ⟨rfl, rfl, s_loadY2 q3 (WN_fi h q4) q2⟩
theorem ec_7B (S : Sc) : f_Prc_transfer S (123 : Int32) = ((1 : Int32), (f_Reg_loadC S (S.1 4))) := rfl
theorem em_7B (T : Sc) : f_Mdl_transfer T (123 : Int32) = ((1 : Int32), (pr (f_Mdl_result T (T.1 4) (0 : Int32)).2 0 ((f_Mdl_result T (T.1 4) (0 : Int32)).1))) := rfl
theorem o_7B {S T : Sc} (h : RR S T) : KO (f_Prc_transfer S (123 : Int32)) (f_Mdl_transfer T (123 : Int32)) := by
  rw [ec_7B, em_7B]
  have k := s_loadC h (RRr_4 h)
  rw [RRe_4 h] at k
  refine ⟨rfl, rfl, ?_⟩
  show RR (f_Reg_loadC S (S.1 4)) _
  rw [RRe_4 h]; exact k
theorem ec_7D (S : Sc) : f_Prc_useAccumulator S (125 : Int32) = ((1 : Int32), (f_Prc_addToA (f_Bus_readValue (f_Opd_place S (29 : Int32)).2 (f_Opd_place S (29 : Int32)).1 (f_Reg_wideA S)).2 (f_Bus_readValue (f_Opd_place S (29 : Int32)).2 (f_Opd_place S (29 : Int32)).1 (f_Reg_wideA S)).1)) := rfl
theorem em_7D (T : Sc) : f_Mdl_arithmetic T (125 : Int32) = ((1 : Int32), (f_Mdl_add (f_Mdl_load (f_Mdl_find T (29 : Int32)).2 (f_Mdl_is T (32 : Int32))).2 (f_Mdl_load (f_Mdl_find T (29 : Int32)).2 (f_Mdl_is T (32 : Int32))).1)) := by
  have e : f_Mdl_arithmetic T (125 : Int32) = if (f_Mdl_find T (29 : Int32)).1 = (0 : Int32) then (((0 : Int32), (f_Mdl_find T (29 : Int32)).2)) else (((1 : Int32), (f_Mdl_add (f_Mdl_load (f_Mdl_find T (29 : Int32)).2 (f_Mdl_is T (32 : Int32))).2 (f_Mdl_load (f_Mdl_find T (29 : Int32)).2 (f_Mdl_is T (32 : Int32))).1))) := rfl
  rw [e, fd1_29, if_neg (by decide : ¬ (1 : Int32) = 0)]
theorem o_7D {S T : Sc} (h : RR S T) : KO (f_Prc_useAccumulator S (125 : Int32)) (f_Mdl_arithmetic T (125 : Int32)) := by
  rw [ec_7D, em_7D]
  obtain ⟨f1, f2, f3, f4⟩ := sp_29 h
  obtain ⟨l1, l2, l3⟩ := s_load f2 f3 (WN_A h)
  have lf := (fr_rv (S := (f_Opd_place S 29).2) (c := (f_Opd_place S 29).1) (WN_A h)).trans f4
  have hw := WN_fr h lf
  exact ⟨rfl, rfl, s_add2 l3 l1⟩
theorem ec_7F (S : Sc) : f_Prc_useAccumulator S (127 : Int32) = ((1 : Int32), (f_Prc_addToA (f_Bus_readValue (f_Opd_place S (31 : Int32)).2 (f_Opd_place S (31 : Int32)).1 (f_Reg_wideA S)).2 (f_Bus_readValue (f_Opd_place S (31 : Int32)).2 (f_Opd_place S (31 : Int32)).1 (f_Reg_wideA S)).1)) := rfl
theorem em_7F (T : Sc) : f_Mdl_arithmetic T (127 : Int32) = ((1 : Int32), (f_Mdl_add (f_Mdl_load (f_Mdl_find T (31 : Int32)).2 (f_Mdl_is T (32 : Int32))).2 (f_Mdl_load (f_Mdl_find T (31 : Int32)).2 (f_Mdl_is T (32 : Int32))).1)) := by
  have e : f_Mdl_arithmetic T (127 : Int32) = if (f_Mdl_find T (31 : Int32)).1 = (0 : Int32) then (((0 : Int32), (f_Mdl_find T (31 : Int32)).2)) else (((1 : Int32), (f_Mdl_add (f_Mdl_load (f_Mdl_find T (31 : Int32)).2 (f_Mdl_is T (32 : Int32))).2 (f_Mdl_load (f_Mdl_find T (31 : Int32)).2 (f_Mdl_is T (32 : Int32))).1))) := rfl
  rw [e, fd1_31, if_neg (by decide : ¬ (1 : Int32) = 0)]
theorem o_7F {S T : Sc} (h : RR S T) : KO (f_Prc_useAccumulator S (127 : Int32)) (f_Mdl_arithmetic T (127 : Int32)) := by
  rw [ec_7F, em_7F]
  obtain ⟨f1, f2, f3, f4⟩ := sp_31 h
  obtain ⟨l1, l2, l3⟩ := s_load f2 f3 (WN_A h)
  have lf := (fr_rv (S := (f_Opd_place S 31).2) (c := (f_Opd_place S 31).1) (WN_A h)).trans f4
  have hw := WN_fr h lf
  exact ⟨rfl, rfl, s_add2 l3 l1⟩
theorem ec_80 (S : Sc) : f_Prc_branch S (128 : Int32) = ((1 : Int32), (f_Reg_jumpTo (f_Opd_nextByte S).2 (((f_Opd_nextByte S).2.1 7) + (((f_Opd_nextByte S).1).toInt8.toInt32)))) := rfl
theorem em_80 (T : Sc) : f_Mdl_jump T (128 : Int32) = ((1 : Int32), (f_Mdl_branch T (1 : Int32))) := rfl
theorem o_80 {S T : Sc} (h : RR S T) : KO (f_Prc_branch S (128 : Int32)) (f_Mdl_jump T (128 : Int32)) := by
  rw [ec_80, em_80]
  exact ⟨rfl, rfl, (s_br (x := 1) h).1 (by decide)⟩
theorem ec_81 (S : Sc) : f_Prc_useAccumulator S (129 : Int32) = ((1 : Int32), (f_Bus_writeValue (f_Opd_place S (1 : Int32)).2 (f_Opd_place S (1 : Int32)).1 ((f_Opd_place S (1 : Int32)).2.1 0) (f_Reg_wideA S))) := rfl
theorem em_81 (T : Sc) : f_Mdl_arithmetic T (129 : Int32) = ((1 : Int32), (f_Mdl_store (f_Mdl_find T (1 : Int32)).2 (f_Mdl_accumulator (f_Mdl_find T (1 : Int32)).2) (f_Mdl_is T (32 : Int32)))) := by
  have e : f_Mdl_arithmetic T (129 : Int32) = if (f_Mdl_find T (1 : Int32)).1 = (0 : Int32) then (((0 : Int32), (f_Mdl_find T (1 : Int32)).2)) else (((1 : Int32), (f_Mdl_store (f_Mdl_find T (1 : Int32)).2 (f_Mdl_accumulator (f_Mdl_find T (1 : Int32)).2) (f_Mdl_is T (32 : Int32))))) := rfl
  rw [e, fd1_1, if_neg (by decide : ¬ (1 : Int32) = 0)]
theorem o_81 {S T : Sc} (h : RR S T) : KO (f_Prc_useAccumulator S (129 : Int32)) (f_Mdl_arithmetic T (129 : Int32)) := by
  rw [ec_81, em_81]
  obtain ⟨f1, f2, f3, f4⟩ := sp_1 h
  exact ⟨rfl, rfl, s_store f2 f3 (WN_A h) (acc_255 f2) (fun z => acc_w f2 ((is_p (RRe_8 f2) (by rw [f4]; exact WN_A h)) : f_Mdl_is _ 32 = f_Mdl_is T 32) z)⟩
theorem ec_82 (S : Sc) : f_Prc_branch S (130 : Int32) = ((1 : Int32), (f_Reg_jumpTo (f_Opd_nextWord S).2 (((f_Opd_nextWord S).2.1 7) + (f_Opd_nextWord S).1))) := rfl
theorem em_82 (T : Sc) : f_Mdl_jump T (130 : Int32) = ((1 : Int32), (pr (f_Mdl_nextWord T).2 8 (((((f_Mdl_nextWord T).2.1 8) + (f_Mdl_nextWord T).1) &&& (65535 : Int32))))) := rfl
theorem o_82 {S T : Sc} (h : RR S T) : KO (f_Prc_branch S (130 : Int32)) (f_Mdl_jump T (130 : Int32)) := by
  rw [ec_82, em_82]
  obtain ⟨a1, a2, a3⟩ := s_nw h
  exact ⟨rfl, rfl, s_jump a3 (by rw [a1, RRe_7 a3])⟩
theorem ec_83 (S : Sc) : f_Prc_useAccumulator S (131 : Int32) = ((1 : Int32), (f_Bus_writeValue (f_Opd_place S (3 : Int32)).2 (f_Opd_place S (3 : Int32)).1 ((f_Opd_place S (3 : Int32)).2.1 0) (f_Reg_wideA S))) := rfl
theorem em_83 (T : Sc) : f_Mdl_arithmetic T (131 : Int32) = ((1 : Int32), (f_Mdl_store (f_Mdl_find T (3 : Int32)).2 (f_Mdl_accumulator (f_Mdl_find T (3 : Int32)).2) (f_Mdl_is T (32 : Int32)))) := by
  have e : f_Mdl_arithmetic T (131 : Int32) = if (f_Mdl_find T (3 : Int32)).1 = (0 : Int32) then (((0 : Int32), (f_Mdl_find T (3 : Int32)).2)) else (((1 : Int32), (f_Mdl_store (f_Mdl_find T (3 : Int32)).2 (f_Mdl_accumulator (f_Mdl_find T (3 : Int32)).2) (f_Mdl_is T (32 : Int32))))) := rfl
  rw [e, fd1_3, if_neg (by decide : ¬ (1 : Int32) = 0)]
theorem o_83 {S T : Sc} (h : RR S T) : KO (f_Prc_useAccumulator S (131 : Int32)) (f_Mdl_arithmetic T (131 : Int32)) := by
  rw [ec_83, em_83]
  obtain ⟨f1, f2, f3, f4⟩ := sp_3 h
  exact ⟨rfl, rfl, s_store f2 f3 (WN_A h) (acc_255 f2) (fun z => acc_w f2 ((is_p (RRe_8 f2) (by rw [f4]; exact WN_A h)) : f_Mdl_is _ 32 = f_Mdl_is T 32) z)⟩
theorem ec_84 (S : Sc) : f_Prc_useIndex S (132 : Int32) = ((1 : Int32), (f_Bus_writeValue (f_Opd_place S (5 : Int32)).2 (f_Opd_place S (5 : Int32)).1 ((f_Opd_place S (5 : Int32)).2.1 2) (f_Reg_wideIndex S))) := rfl
theorem em_84 (T : Sc) : f_Mdl_index T (132 : Int32) = ((1 : Int32), (f_Mdl_storeAt T (0 : Int32) (T.1 2) (f_Mdl_is T (16 : Int32)))) := rfl
theorem o_84 {S T : Sc} (h : RR S T) : KO (f_Prc_useIndex S (132 : Int32)) (f_Mdl_index T (132 : Int32)) := by
  rw [ec_84, em_84]
  obtain ⟨f2, f3, f4, f5⟩ := sp_fi h 5 0 (Or.inl ⟨rfl, rfl⟩)
  have e : (f_Opd_place S 5).2.1 2 = T.1 2 := (show (f_Opd_place S 5).2.1 2 = S.1 2 by rw [pl_5]; rfl).trans (RRe_2 h)
  rw [sa_eq]
  exact ⟨rfl, rfl, s_store f2 f3 (WN_I h) (by rw [e]) (fun _ => e)⟩
theorem ec_85 (S : Sc) : f_Prc_useAccumulator S (133 : Int32) = ((1 : Int32), (f_Bus_writeValue (f_Opd_place S (5 : Int32)).2 (f_Opd_place S (5 : Int32)).1 ((f_Opd_place S (5 : Int32)).2.1 0) (f_Reg_wideA S))) := rfl
theorem em_85 (T : Sc) : f_Mdl_arithmetic T (133 : Int32) = ((1 : Int32), (f_Mdl_store (f_Mdl_find T (5 : Int32)).2 (f_Mdl_accumulator (f_Mdl_find T (5 : Int32)).2) (f_Mdl_is T (32 : Int32)))) := by
  have e : f_Mdl_arithmetic T (133 : Int32) = if (f_Mdl_find T (5 : Int32)).1 = (0 : Int32) then (((0 : Int32), (f_Mdl_find T (5 : Int32)).2)) else (((1 : Int32), (f_Mdl_store (f_Mdl_find T (5 : Int32)).2 (f_Mdl_accumulator (f_Mdl_find T (5 : Int32)).2) (f_Mdl_is T (32 : Int32))))) := rfl
  rw [e, fd1_5, if_neg (by decide : ¬ (1 : Int32) = 0)]
theorem o_85 {S T : Sc} (h : RR S T) : KO (f_Prc_useAccumulator S (133 : Int32)) (f_Mdl_arithmetic T (133 : Int32)) := by
  rw [ec_85, em_85]
  obtain ⟨f1, f2, f3, f4⟩ := sp_5 h
  exact ⟨rfl, rfl, s_store f2 f3 (WN_A h) (acc_255 f2) (fun z => acc_w f2 ((is_p (RRe_8 f2) (by rw [f4]; exact WN_A h)) : f_Mdl_is _ 32 = f_Mdl_is T 32) z)⟩
theorem ec_86 (S : Sc) : f_Prc_useIndex S (134 : Int32) = ((1 : Int32), (f_Bus_writeValue (f_Opd_place S (5 : Int32)).2 (f_Opd_place S (5 : Int32)).1 ((f_Opd_place S (5 : Int32)).2.1 1) (f_Reg_wideIndex S))) := rfl
theorem em_86 (T : Sc) : f_Mdl_index T (134 : Int32) = ((1 : Int32), (f_Mdl_storeAt T (0 : Int32) (T.1 1) (f_Mdl_is T (16 : Int32)))) := rfl
theorem o_86 {S T : Sc} (h : RR S T) : KO (f_Prc_useIndex S (134 : Int32)) (f_Mdl_index T (134 : Int32)) := by
  rw [ec_86, em_86]
  obtain ⟨f2, f3, f4, f5⟩ := sp_fi h 5 0 (Or.inl ⟨rfl, rfl⟩)
  have e : (f_Opd_place S 5).2.1 1 = T.1 1 := (show (f_Opd_place S 5).2.1 1 = S.1 1 by rw [pl_5]; rfl).trans (RRe_1 h)
  rw [sa_eq]
  exact ⟨rfl, rfl, s_store f2 f3 (WN_I h) (by rw [e]) (fun _ => e)⟩
theorem ec_87 (S : Sc) : f_Prc_useAccumulator S (135 : Int32) = ((1 : Int32), (f_Bus_writeValue (f_Opd_place S (7 : Int32)).2 (f_Opd_place S (7 : Int32)).1 ((f_Opd_place S (7 : Int32)).2.1 0) (f_Reg_wideA S))) := rfl
theorem em_87 (T : Sc) : f_Mdl_arithmetic T (135 : Int32) = ((1 : Int32), (f_Mdl_store (f_Mdl_find T (7 : Int32)).2 (f_Mdl_accumulator (f_Mdl_find T (7 : Int32)).2) (f_Mdl_is T (32 : Int32)))) := by
  have e : f_Mdl_arithmetic T (135 : Int32) = if (f_Mdl_find T (7 : Int32)).1 = (0 : Int32) then (((0 : Int32), (f_Mdl_find T (7 : Int32)).2)) else (((1 : Int32), (f_Mdl_store (f_Mdl_find T (7 : Int32)).2 (f_Mdl_accumulator (f_Mdl_find T (7 : Int32)).2) (f_Mdl_is T (32 : Int32))))) := rfl
  rw [e, fd1_7, if_neg (by decide : ¬ (1 : Int32) = 0)]
theorem o_87 {S T : Sc} (h : RR S T) : KO (f_Prc_useAccumulator S (135 : Int32)) (f_Mdl_arithmetic T (135 : Int32)) := by
  rw [ec_87, em_87]
  obtain ⟨f1, f2, f3, f4⟩ := sp_7 h
  exact ⟨rfl, rfl, s_store f2 f3 (WN_A h) (acc_255 f2) (fun z => acc_w f2 ((is_p (RRe_8 f2) (by rw [f4]; exact WN_A h)) : f_Mdl_is _ 32 = f_Mdl_is T 32) z)⟩
theorem ec_88 (S : Sc) : f_Prc_changeRegister S (136 : Int32) = ((1 : Int32), (f_Reg_loadY S ((S.1 2) - (1 : Int32)))) := rfl
theorem em_88 (T : Sc) : f_Mdl_index T (136 : Int32) = ((1 : Int32), (pr (f_Mdl_result T ((T.1 2) - (1 : Int32)) (f_Mdl_is T (16 : Int32))).2 2 ((f_Mdl_result T ((T.1 2) - (1 : Int32)) (f_Mdl_is T (16 : Int32))).1))) := rfl
theorem o_88 {S T : Sc} (h : RR S T) : KO (f_Prc_changeRegister S (136 : Int32)) (f_Mdl_index T (136 : Int32)) := by
  rw [ec_88, em_88]
  exact ⟨rfl, rfl, s_loadY2 h (WN_I h) (by rw [RRe_2 h])⟩
theorem ec_8A (S : Sc) : f_Prc_transfer S (138 : Int32) = ((1 : Int32), (f_Reg_loadA S (S.1 1))) := rfl
theorem em_8A (T : Sc) : f_Mdl_transfer T (138 : Int32) = ((1 : Int32), (f_Mdl_setAccumulator (f_Mdl_result T (T.1 1) (f_Mdl_is T (32 : Int32))).2 (f_Mdl_result T (T.1 1) (f_Mdl_is T (32 : Int32))).1)) := rfl
theorem o_8A {S T : Sc} (h : RR S T) : KO (f_Prc_transfer S (138 : Int32)) (f_Mdl_transfer T (138 : Int32)) := by
  rw [ec_8A, em_8A]
  exact ⟨rfl, rfl, s_setA2 h (WN_A h) (RRe_1 h)⟩
theorem ec_8B (S : Sc) : f_Prc_push S (139 : Int32) = ((1 : Int32), (f_Stk_pushByte S (S.1 5))) := rfl
theorem em_8B (T : Sc) : f_Mdl_stack T (139 : Int32) = ((1 : Int32), (f_Mdl_push T (T.1 5))) := rfl
theorem o_8B {S T : Sc} (h : RR S T) : KO (f_Prc_push S (139 : Int32)) (f_Mdl_stack T (139 : Int32)) := by
  rw [ec_8B, em_8B]
  exact ⟨rfl, rfl, s_push h (by rw [RRe_5 h])⟩
theorem ec_8C (S : Sc) : f_Prc_useIndex S (140 : Int32) = ((1 : Int32), (f_Bus_writeValue (f_Opd_place S (13 : Int32)).2 (f_Opd_place S (13 : Int32)).1 ((f_Opd_place S (13 : Int32)).2.1 2) (f_Reg_wideIndex S))) := rfl
theorem em_8C (T : Sc) : f_Mdl_index T (140 : Int32) = ((1 : Int32), (f_Mdl_storeAt T (1 : Int32) (T.1 2) (f_Mdl_is T (16 : Int32)))) := rfl
theorem o_8C {S T : Sc} (h : RR S T) : KO (f_Prc_useIndex S (140 : Int32)) (f_Mdl_index T (140 : Int32)) := by
  rw [ec_8C, em_8C]
  obtain ⟨f2, f3, f4, f5⟩ := sp_fi h 13 1 (Or.inr ⟨rfl, rfl⟩)
  have e : (f_Opd_place S 13).2.1 2 = T.1 2 := (show (f_Opd_place S 13).2.1 2 = S.1 2 by rw [pl_13]; rfl).trans (RRe_2 h)
  rw [sa_eq]
  exact ⟨rfl, rfl, s_store f2 f3 (WN_I h) (by rw [e]) (fun _ => e)⟩
theorem ec_8D (S : Sc) : f_Prc_useAccumulator S (141 : Int32) = ((1 : Int32), (f_Bus_writeValue (f_Opd_place S (13 : Int32)).2 (f_Opd_place S (13 : Int32)).1 ((f_Opd_place S (13 : Int32)).2.1 0) (f_Reg_wideA S))) := rfl
theorem em_8D (T : Sc) : f_Mdl_arithmetic T (141 : Int32) = ((1 : Int32), (f_Mdl_store (f_Mdl_find T (13 : Int32)).2 (f_Mdl_accumulator (f_Mdl_find T (13 : Int32)).2) (f_Mdl_is T (32 : Int32)))) := by
  have e : f_Mdl_arithmetic T (141 : Int32) = if (f_Mdl_find T (13 : Int32)).1 = (0 : Int32) then (((0 : Int32), (f_Mdl_find T (13 : Int32)).2)) else (((1 : Int32), (f_Mdl_store (f_Mdl_find T (13 : Int32)).2 (f_Mdl_accumulator (f_Mdl_find T (13 : Int32)).2) (f_Mdl_is T (32 : Int32))))) := rfl
  rw [e, fd1_13, if_neg (by decide : ¬ (1 : Int32) = 0)]
theorem o_8D {S T : Sc} (h : RR S T) : KO (f_Prc_useAccumulator S (141 : Int32)) (f_Mdl_arithmetic T (141 : Int32)) := by
  rw [ec_8D, em_8D]
  obtain ⟨f1, f2, f3, f4⟩ := sp_13 h
  exact ⟨rfl, rfl, s_store f2 f3 (WN_A h) (acc_255 f2) (fun z => acc_w f2 ((is_p (RRe_8 f2) (by rw [f4]; exact WN_A h)) : f_Mdl_is _ 32 = f_Mdl_is T 32) z)⟩
theorem ec_8E (S : Sc) : f_Prc_useIndex S (142 : Int32) = ((1 : Int32), (f_Bus_writeValue (f_Opd_place S (13 : Int32)).2 (f_Opd_place S (13 : Int32)).1 ((f_Opd_place S (13 : Int32)).2.1 1) (f_Reg_wideIndex S))) := rfl
theorem em_8E (T : Sc) : f_Mdl_index T (142 : Int32) = ((1 : Int32), (f_Mdl_storeAt T (1 : Int32) (T.1 1) (f_Mdl_is T (16 : Int32)))) := rfl
theorem o_8E {S T : Sc} (h : RR S T) : KO (f_Prc_useIndex S (142 : Int32)) (f_Mdl_index T (142 : Int32)) := by
  rw [ec_8E, em_8E]
  obtain ⟨f2, f3, f4, f5⟩ := sp_fi h 13 1 (Or.inr ⟨rfl, rfl⟩)
  have e : (f_Opd_place S 13).2.1 1 = T.1 1 := (show (f_Opd_place S 13).2.1 1 = S.1 1 by rw [pl_13]; rfl).trans (RRe_1 h)
  rw [sa_eq]
  exact ⟨rfl, rfl, s_store f2 f3 (WN_I h) (by rw [e]) (fun _ => e)⟩
theorem ec_8F (S : Sc) : f_Prc_useAccumulator S (143 : Int32) = ((1 : Int32), (f_Bus_writeValue (f_Opd_place S (15 : Int32)).2 (f_Opd_place S (15 : Int32)).1 ((f_Opd_place S (15 : Int32)).2.1 0) (f_Reg_wideA S))) := rfl
theorem em_8F (T : Sc) : f_Mdl_arithmetic T (143 : Int32) = ((1 : Int32), (f_Mdl_store (f_Mdl_find T (15 : Int32)).2 (f_Mdl_accumulator (f_Mdl_find T (15 : Int32)).2) (f_Mdl_is T (32 : Int32)))) := by
  have e : f_Mdl_arithmetic T (143 : Int32) = if (f_Mdl_find T (15 : Int32)).1 = (0 : Int32) then (((0 : Int32), (f_Mdl_find T (15 : Int32)).2)) else (((1 : Int32), (f_Mdl_store (f_Mdl_find T (15 : Int32)).2 (f_Mdl_accumulator (f_Mdl_find T (15 : Int32)).2) (f_Mdl_is T (32 : Int32))))) := rfl
  rw [e, fd1_15, if_neg (by decide : ¬ (1 : Int32) = 0)]
theorem o_8F {S T : Sc} (h : RR S T) : KO (f_Prc_useAccumulator S (143 : Int32)) (f_Mdl_arithmetic T (143 : Int32)) := by
  rw [ec_8F, em_8F]
  obtain ⟨f1, f2, f3, f4⟩ := sp_15 h
  exact ⟨rfl, rfl, s_store f2 f3 (WN_A h) (acc_255 f2) (fun z => acc_w f2 ((is_p (RRe_8 f2) (by rw [f4]; exact WN_A h)) : f_Mdl_is _ 32 = f_Mdl_is T 32) z)⟩
theorem ec_90 (S : Sc) : f_Prc_branch S (144 : Int32) = if (f_Reg_has (f_Opd_nextByte S).2 (bf ((2 : Int32)).toNatClampNeg)) = (0 : Int32) then (((1 : Int32), (f_Reg_jumpTo (f_Opd_nextByte S).2 (((f_Opd_nextByte S).2.1 7) + (((f_Opd_nextByte S).1).toInt8.toInt32))))) else (((1 : Int32), (f_Opd_nextByte S).2)) := rfl
theorem em_90 (T : Sc) : f_Mdl_jump T (144 : Int32) = if (f_Mdl_is T (1 : Int32)) = (0 : Int32) then (((1 : Int32), (f_Mdl_branch T (1 : Int32)))) else (((1 : Int32), (f_Mdl_branch T (0 : Int32)))) := rfl
theorem o_90 {S T : Sc} (h : RR S T) : KO (f_Prc_branch S (144 : Int32)) (f_Mdl_jump T (144 : Int32)) := by
  rw [ec_90, em_90]
  have e : f_Reg_has (f_Opd_nextByte S).2 (1 : Int32) = f_Mdl_is T (1 : Int32) := has_n h (1 : Int32)
  have eb : bf (2 : Int32).toNatClampNeg = (1 : Int32) := rfl
  rw [eb, e]
  by_cases z : f_Mdl_is T (1 : Int32) = (0 : Int32)
  · rw [if_pos z, if_pos z]; exact ⟨rfl, rfl, (s_br (x := 1) h).1 (by decide)⟩
  · rw [if_neg z, if_neg z]; exact ⟨rfl, rfl, (s_br (x := 0) h).2 rfl⟩
theorem ec_91 (S : Sc) : f_Prc_useAccumulator S (145 : Int32) = ((1 : Int32), (f_Bus_writeValue (f_Opd_place S (17 : Int32)).2 (f_Opd_place S (17 : Int32)).1 ((f_Opd_place S (17 : Int32)).2.1 0) (f_Reg_wideA S))) := rfl
theorem em_91 (T : Sc) : f_Mdl_arithmetic T (145 : Int32) = ((1 : Int32), (f_Mdl_store (f_Mdl_find T (17 : Int32)).2 (f_Mdl_accumulator (f_Mdl_find T (17 : Int32)).2) (f_Mdl_is T (32 : Int32)))) := by
  have e : f_Mdl_arithmetic T (145 : Int32) = if (f_Mdl_find T (17 : Int32)).1 = (0 : Int32) then (((0 : Int32), (f_Mdl_find T (17 : Int32)).2)) else (((1 : Int32), (f_Mdl_store (f_Mdl_find T (17 : Int32)).2 (f_Mdl_accumulator (f_Mdl_find T (17 : Int32)).2) (f_Mdl_is T (32 : Int32))))) := rfl
  rw [e, fd1_17, if_neg (by decide : ¬ (1 : Int32) = 0)]
theorem o_91 {S T : Sc} (h : RR S T) : KO (f_Prc_useAccumulator S (145 : Int32)) (f_Mdl_arithmetic T (145 : Int32)) := by
  rw [ec_91, em_91]
  obtain ⟨f1, f2, f3, f4⟩ := sp_17 h
  exact ⟨rfl, rfl, s_store f2 f3 (WN_A h) (acc_255 f2) (fun z => acc_w f2 ((is_p (RRe_8 f2) (by rw [f4]; exact WN_A h)) : f_Mdl_is _ 32 = f_Mdl_is T 32) z)⟩
theorem ec_92 (S : Sc) : f_Prc_useAccumulator S (146 : Int32) = ((1 : Int32), (f_Bus_writeValue (f_Opd_place S (18 : Int32)).2 (f_Opd_place S (18 : Int32)).1 ((f_Opd_place S (18 : Int32)).2.1 0) (f_Reg_wideA S))) := rfl
theorem em_92 (T : Sc) : f_Mdl_arithmetic T (146 : Int32) = ((1 : Int32), (f_Mdl_store (f_Mdl_find T (18 : Int32)).2 (f_Mdl_accumulator (f_Mdl_find T (18 : Int32)).2) (f_Mdl_is T (32 : Int32)))) := by
  have e : f_Mdl_arithmetic T (146 : Int32) = if (f_Mdl_find T (18 : Int32)).1 = (0 : Int32) then (((0 : Int32), (f_Mdl_find T (18 : Int32)).2)) else (((1 : Int32), (f_Mdl_store (f_Mdl_find T (18 : Int32)).2 (f_Mdl_accumulator (f_Mdl_find T (18 : Int32)).2) (f_Mdl_is T (32 : Int32))))) := rfl
  rw [e, fd1_18, if_neg (by decide : ¬ (1 : Int32) = 0)]
theorem o_92 {S T : Sc} (h : RR S T) : KO (f_Prc_useAccumulator S (146 : Int32)) (f_Mdl_arithmetic T (146 : Int32)) := by
  rw [ec_92, em_92]
  obtain ⟨f1, f2, f3, f4⟩ := sp_18 h
  exact ⟨rfl, rfl, s_store f2 f3 (WN_A h) (acc_255 f2) (fun z => acc_w f2 ((is_p (RRe_8 f2) (by rw [f4]; exact WN_A h)) : f_Mdl_is _ 32 = f_Mdl_is T 32) z)⟩
theorem ec_93 (S : Sc) : f_Prc_useAccumulator S (147 : Int32) = ((1 : Int32), (f_Bus_writeValue (f_Opd_place S (19 : Int32)).2 (f_Opd_place S (19 : Int32)).1 ((f_Opd_place S (19 : Int32)).2.1 0) (f_Reg_wideA S))) := rfl
theorem em_93 (T : Sc) : f_Mdl_arithmetic T (147 : Int32) = ((1 : Int32), (f_Mdl_store (f_Mdl_find T (19 : Int32)).2 (f_Mdl_accumulator (f_Mdl_find T (19 : Int32)).2) (f_Mdl_is T (32 : Int32)))) := by
  have e : f_Mdl_arithmetic T (147 : Int32) = if (f_Mdl_find T (19 : Int32)).1 = (0 : Int32) then (((0 : Int32), (f_Mdl_find T (19 : Int32)).2)) else (((1 : Int32), (f_Mdl_store (f_Mdl_find T (19 : Int32)).2 (f_Mdl_accumulator (f_Mdl_find T (19 : Int32)).2) (f_Mdl_is T (32 : Int32))))) := rfl
  rw [e, fd1_19, if_neg (by decide : ¬ (1 : Int32) = 0)]
theorem o_93 {S T : Sc} (h : RR S T) : KO (f_Prc_useAccumulator S (147 : Int32)) (f_Mdl_arithmetic T (147 : Int32)) := by
  rw [ec_93, em_93]
  obtain ⟨f1, f2, f3, f4⟩ := sp_19 h
  exact ⟨rfl, rfl, s_store f2 f3 (WN_A h) (acc_255 f2) (fun z => acc_w f2 ((is_p (RRe_8 f2) (by rw [f4]; exact WN_A h)) : f_Mdl_is _ 32 = f_Mdl_is T 32) z)⟩
theorem ec_95 (S : Sc) : f_Prc_useAccumulator S (149 : Int32) = ((1 : Int32), (f_Bus_writeValue (f_Opd_place S (21 : Int32)).2 (f_Opd_place S (21 : Int32)).1 ((f_Opd_place S (21 : Int32)).2.1 0) (f_Reg_wideA S))) := rfl
theorem em_95 (T : Sc) : f_Mdl_arithmetic T (149 : Int32) = ((1 : Int32), (f_Mdl_store (f_Mdl_find T (21 : Int32)).2 (f_Mdl_accumulator (f_Mdl_find T (21 : Int32)).2) (f_Mdl_is T (32 : Int32)))) := by
  have e : f_Mdl_arithmetic T (149 : Int32) = if (f_Mdl_find T (21 : Int32)).1 = (0 : Int32) then (((0 : Int32), (f_Mdl_find T (21 : Int32)).2)) else (((1 : Int32), (f_Mdl_store (f_Mdl_find T (21 : Int32)).2 (f_Mdl_accumulator (f_Mdl_find T (21 : Int32)).2) (f_Mdl_is T (32 : Int32))))) := rfl
  rw [e, fd1_21, if_neg (by decide : ¬ (1 : Int32) = 0)]
theorem o_95 {S T : Sc} (h : RR S T) : KO (f_Prc_useAccumulator S (149 : Int32)) (f_Mdl_arithmetic T (149 : Int32)) := by
  rw [ec_95, em_95]
  obtain ⟨f1, f2, f3, f4⟩ := sp_21 h
  exact ⟨rfl, rfl, s_store f2 f3 (WN_A h) (acc_255 f2) (fun z => acc_w f2 ((is_p (RRe_8 f2) (by rw [f4]; exact WN_A h)) : f_Mdl_is _ 32 = f_Mdl_is T 32) z)⟩
theorem ec_97 (S : Sc) : f_Prc_useAccumulator S (151 : Int32) = ((1 : Int32), (f_Bus_writeValue (f_Opd_place S (23 : Int32)).2 (f_Opd_place S (23 : Int32)).1 ((f_Opd_place S (23 : Int32)).2.1 0) (f_Reg_wideA S))) := rfl
theorem em_97 (T : Sc) : f_Mdl_arithmetic T (151 : Int32) = ((1 : Int32), (f_Mdl_store (f_Mdl_find T (23 : Int32)).2 (f_Mdl_accumulator (f_Mdl_find T (23 : Int32)).2) (f_Mdl_is T (32 : Int32)))) := by
  have e : f_Mdl_arithmetic T (151 : Int32) = if (f_Mdl_find T (23 : Int32)).1 = (0 : Int32) then (((0 : Int32), (f_Mdl_find T (23 : Int32)).2)) else (((1 : Int32), (f_Mdl_store (f_Mdl_find T (23 : Int32)).2 (f_Mdl_accumulator (f_Mdl_find T (23 : Int32)).2) (f_Mdl_is T (32 : Int32))))) := rfl
  rw [e, fd1_23, if_neg (by decide : ¬ (1 : Int32) = 0)]
theorem o_97 {S T : Sc} (h : RR S T) : KO (f_Prc_useAccumulator S (151 : Int32)) (f_Mdl_arithmetic T (151 : Int32)) := by
  rw [ec_97, em_97]
  obtain ⟨f1, f2, f3, f4⟩ := sp_23 h
  exact ⟨rfl, rfl, s_store f2 f3 (WN_A h) (acc_255 f2) (fun z => acc_w f2 ((is_p (RRe_8 f2) (by rw [f4]; exact WN_A h)) : f_Mdl_is _ 32 = f_Mdl_is T 32) z)⟩
theorem ec_98 (S : Sc) : f_Prc_transfer S (152 : Int32) = ((1 : Int32), (f_Reg_loadA S (S.1 2))) := rfl
theorem em_98 (T : Sc) : f_Mdl_transfer T (152 : Int32) = ((1 : Int32), (f_Mdl_setAccumulator (f_Mdl_result T (T.1 2) (f_Mdl_is T (32 : Int32))).2 (f_Mdl_result T (T.1 2) (f_Mdl_is T (32 : Int32))).1)) := rfl
theorem o_98 {S T : Sc} (h : RR S T) : KO (f_Prc_transfer S (152 : Int32)) (f_Mdl_transfer T (152 : Int32)) := by
  rw [ec_98, em_98]
  exact ⟨rfl, rfl, s_setA2 h (WN_A h) (RRe_2 h)⟩
theorem ec_99 (S : Sc) : f_Prc_useAccumulator S (153 : Int32) = ((1 : Int32), (f_Bus_writeValue (f_Opd_place S (25 : Int32)).2 (f_Opd_place S (25 : Int32)).1 ((f_Opd_place S (25 : Int32)).2.1 0) (f_Reg_wideA S))) := rfl
theorem em_99 (T : Sc) : f_Mdl_arithmetic T (153 : Int32) = ((1 : Int32), (f_Mdl_store (f_Mdl_find T (25 : Int32)).2 (f_Mdl_accumulator (f_Mdl_find T (25 : Int32)).2) (f_Mdl_is T (32 : Int32)))) := by
  have e : f_Mdl_arithmetic T (153 : Int32) = if (f_Mdl_find T (25 : Int32)).1 = (0 : Int32) then (((0 : Int32), (f_Mdl_find T (25 : Int32)).2)) else (((1 : Int32), (f_Mdl_store (f_Mdl_find T (25 : Int32)).2 (f_Mdl_accumulator (f_Mdl_find T (25 : Int32)).2) (f_Mdl_is T (32 : Int32))))) := rfl
  rw [e, fd1_25, if_neg (by decide : ¬ (1 : Int32) = 0)]
theorem o_99 {S T : Sc} (h : RR S T) : KO (f_Prc_useAccumulator S (153 : Int32)) (f_Mdl_arithmetic T (153 : Int32)) := by
  rw [ec_99, em_99]
  obtain ⟨f1, f2, f3, f4⟩ := sp_25 h
  exact ⟨rfl, rfl, s_store f2 f3 (WN_A h) (acc_255 f2) (fun z => acc_w f2 ((is_p (RRe_8 f2) (by rw [f4]; exact WN_A h)) : f_Mdl_is _ 32 = f_Mdl_is T 32) z)⟩
theorem ec_9A (S : Sc) : f_Prc_transfer S (154 : Int32) = ((1 : Int32), (pr S 3 (S.1 1))) := rfl
theorem em_9A (T : Sc) : f_Mdl_transfer T (154 : Int32) = ((1 : Int32), (pr T 3 (T.1 1))) := rfl
theorem o_9A {S T : Sc} (h : RR S T) : KO (f_Prc_transfer S (154 : Int32)) (f_Mdl_transfer T (154 : Int32)) := by
  rw [ec_9A, em_9A]
  exact ⟨rfl, rfl, R_3 h (RRe_1 h) (RRr_1 h)⟩
theorem ec_9B (S : Sc) : f_Prc_transfer S (155 : Int32) = ((1 : Int32), (f_Reg_loadY S (S.1 1))) := rfl
theorem em_9B (T : Sc) : f_Mdl_transfer T (155 : Int32) = ((1 : Int32), (pr (f_Mdl_result T (T.1 1) (f_Mdl_is T (16 : Int32))).2 2 ((f_Mdl_result T (T.1 1) (f_Mdl_is T (16 : Int32))).1))) := rfl
theorem o_9B {S T : Sc} (h : RR S T) : KO (f_Prc_transfer S (155 : Int32)) (f_Mdl_transfer T (155 : Int32)) := by
  rw [ec_9B, em_9B]
  exact ⟨rfl, rfl, s_loadY2 h (WN_I h) (RRe_1 h)⟩
theorem ec_9C (S : Sc) : f_Prc_storeZero S (156 : Int32) = ((1 : Int32), (f_Bus_writeValue (f_Opd_place S (13 : Int32)).2 (f_Opd_place S (13 : Int32)).1 (0 : Int32) (f_Reg_wideA (f_Opd_place S (13 : Int32)).2))) := rfl
theorem em_9C (T : Sc) : f_Mdl_index T (156 : Int32) = ((1 : Int32), (f_Mdl_storeAt T (1 : Int32) (0 : Int32) (f_Mdl_is T (32 : Int32)))) := rfl
theorem o_9C {S T : Sc} (h : RR S T) : KO (f_Prc_storeZero S (156 : Int32)) (f_Mdl_index T (156 : Int32)) := by
  rw [ec_9C, em_9C]
  obtain ⟨f2, f3, f4, f5⟩ := sp_fi h 13 1 (Or.inr ⟨rfl, rfl⟩)
  rw [sa_eq]
  exact ⟨rfl, rfl, s_store f2 f3 (WN_fr h f4) rfl (fun _ => rfl)⟩
theorem ec_9D (S : Sc) : f_Prc_useAccumulator S (157 : Int32) = ((1 : Int32), (f_Bus_writeValue (f_Opd_place S (29 : Int32)).2 (f_Opd_place S (29 : Int32)).1 ((f_Opd_place S (29 : Int32)).2.1 0) (f_Reg_wideA S))) := rfl
theorem em_9D (T : Sc) : f_Mdl_arithmetic T (157 : Int32) = ((1 : Int32), (f_Mdl_store (f_Mdl_find T (29 : Int32)).2 (f_Mdl_accumulator (f_Mdl_find T (29 : Int32)).2) (f_Mdl_is T (32 : Int32)))) := by
  have e : f_Mdl_arithmetic T (157 : Int32) = if (f_Mdl_find T (29 : Int32)).1 = (0 : Int32) then (((0 : Int32), (f_Mdl_find T (29 : Int32)).2)) else (((1 : Int32), (f_Mdl_store (f_Mdl_find T (29 : Int32)).2 (f_Mdl_accumulator (f_Mdl_find T (29 : Int32)).2) (f_Mdl_is T (32 : Int32))))) := rfl
  rw [e, fd1_29, if_neg (by decide : ¬ (1 : Int32) = 0)]
theorem o_9D {S T : Sc} (h : RR S T) : KO (f_Prc_useAccumulator S (157 : Int32)) (f_Mdl_arithmetic T (157 : Int32)) := by
  rw [ec_9D, em_9D]
  obtain ⟨f1, f2, f3, f4⟩ := sp_29 h
  exact ⟨rfl, rfl, s_store f2 f3 (WN_A h) (acc_255 f2) (fun z => acc_w f2 ((is_p (RRe_8 f2) (by rw [f4]; exact WN_A h)) : f_Mdl_is _ 32 = f_Mdl_is T 32) z)⟩
theorem ec_9F (S : Sc) : f_Prc_useAccumulator S (159 : Int32) = ((1 : Int32), (f_Bus_writeValue (f_Opd_place S (31 : Int32)).2 (f_Opd_place S (31 : Int32)).1 ((f_Opd_place S (31 : Int32)).2.1 0) (f_Reg_wideA S))) := rfl
theorem em_9F (T : Sc) : f_Mdl_arithmetic T (159 : Int32) = ((1 : Int32), (f_Mdl_store (f_Mdl_find T (31 : Int32)).2 (f_Mdl_accumulator (f_Mdl_find T (31 : Int32)).2) (f_Mdl_is T (32 : Int32)))) := by
  have e : f_Mdl_arithmetic T (159 : Int32) = if (f_Mdl_find T (31 : Int32)).1 = (0 : Int32) then (((0 : Int32), (f_Mdl_find T (31 : Int32)).2)) else (((1 : Int32), (f_Mdl_store (f_Mdl_find T (31 : Int32)).2 (f_Mdl_accumulator (f_Mdl_find T (31 : Int32)).2) (f_Mdl_is T (32 : Int32))))) := rfl
  rw [e, fd1_31, if_neg (by decide : ¬ (1 : Int32) = 0)]
theorem o_9F {S T : Sc} (h : RR S T) : KO (f_Prc_useAccumulator S (159 : Int32)) (f_Mdl_arithmetic T (159 : Int32)) := by
  rw [ec_9F, em_9F]
  obtain ⟨f1, f2, f3, f4⟩ := sp_31 h
  exact ⟨rfl, rfl, s_store f2 f3 (WN_A h) (acc_255 f2) (fun z => acc_w f2 ((is_p (RRe_8 f2) (by rw [f4]; exact WN_A h)) : f_Mdl_is _ 32 = f_Mdl_is T 32) z)⟩
theorem ec_A0 (S : Sc) : f_Prc_useIndex S (160 : Int32) = ((1 : Int32), (f_Reg_loadY (f_Opd_nextValue S (f_Reg_wideIndex S)).2 (f_Opd_nextValue S (f_Reg_wideIndex S)).1)) := rfl
theorem em_A0 (T : Sc) : f_Mdl_index T (160 : Int32) = ((1 : Int32), (pr (f_Mdl_result (f_Mdl_indexOperand T (160 : Int32)).2 (f_Mdl_indexOperand T (160 : Int32)).1 (f_Mdl_is T (16 : Int32))).2 2 ((f_Mdl_result (f_Mdl_indexOperand T (160 : Int32)).2 (f_Mdl_indexOperand T (160 : Int32)).1 (f_Mdl_is T (16 : Int32))).1))) := rfl
theorem o_A0 {S T : Sc} (h : RR S T) : KO (f_Prc_useIndex S (160 : Int32)) (f_Mdl_index T (160 : Int32)) := by
  rw [ec_A0, em_A0]
  obtain ⟨l1, l2, l3⟩ := s_nv h (WN_I h)
  rw [io_160]
  exact ⟨rfl, rfl, s_loadY2 l3 (WN_fi h (fr_nv (WN_I h))) l1⟩
theorem ec_A1 (S : Sc) : f_Prc_useAccumulator S (161 : Int32) = ((1 : Int32), (f_Reg_loadA (f_Bus_readValue (f_Opd_place S (1 : Int32)).2 (f_Opd_place S (1 : Int32)).1 (f_Reg_wideA S)).2 (f_Bus_readValue (f_Opd_place S (1 : Int32)).2 (f_Opd_place S (1 : Int32)).1 (f_Reg_wideA S)).1)) := rfl
theorem em_A1 (T : Sc) : f_Mdl_arithmetic T (161 : Int32) = ((1 : Int32), (f_Mdl_setAccumulator (f_Mdl_result (f_Mdl_load (f_Mdl_find T (1 : Int32)).2 (f_Mdl_is T (32 : Int32))).2 (f_Mdl_load (f_Mdl_find T (1 : Int32)).2 (f_Mdl_is T (32 : Int32))).1 (f_Mdl_is T (32 : Int32))).2 (f_Mdl_result (f_Mdl_load (f_Mdl_find T (1 : Int32)).2 (f_Mdl_is T (32 : Int32))).2 (f_Mdl_load (f_Mdl_find T (1 : Int32)).2 (f_Mdl_is T (32 : Int32))).1 (f_Mdl_is T (32 : Int32))).1)) := by
  have e : f_Mdl_arithmetic T (161 : Int32) = if (f_Mdl_find T (1 : Int32)).1 = (0 : Int32) then (((0 : Int32), (f_Mdl_find T (1 : Int32)).2)) else (((1 : Int32), (f_Mdl_setAccumulator (f_Mdl_result (f_Mdl_load (f_Mdl_find T (1 : Int32)).2 (f_Mdl_is T (32 : Int32))).2 (f_Mdl_load (f_Mdl_find T (1 : Int32)).2 (f_Mdl_is T (32 : Int32))).1 (f_Mdl_is T (32 : Int32))).2 (f_Mdl_result (f_Mdl_load (f_Mdl_find T (1 : Int32)).2 (f_Mdl_is T (32 : Int32))).2 (f_Mdl_load (f_Mdl_find T (1 : Int32)).2 (f_Mdl_is T (32 : Int32))).1 (f_Mdl_is T (32 : Int32))).1))) := rfl
  rw [e, fd1_1, if_neg (by decide : ¬ (1 : Int32) = 0)]
theorem o_A1 {S T : Sc} (h : RR S T) : KO (f_Prc_useAccumulator S (161 : Int32)) (f_Mdl_arithmetic T (161 : Int32)) := by
  rw [ec_A1, em_A1]
  obtain ⟨f1, f2, f3, f4⟩ := sp_1 h
  obtain ⟨l1, l2, l3⟩ := s_load f2 f3 (WN_A h)
  have lf := (fr_rv (S := (f_Opd_place S 1).2) (c := (f_Opd_place S 1).1) (WN_A h)).trans f4
  have hw := WN_fr h lf
  exact ⟨rfl, rfl, s_setA2 l3 hw l1⟩
theorem ec_A2 (S : Sc) : f_Prc_useIndex S (162 : Int32) = ((1 : Int32), (f_Reg_loadX (f_Opd_nextValue S (f_Reg_wideIndex S)).2 (f_Opd_nextValue S (f_Reg_wideIndex S)).1)) := rfl
theorem em_A2 (T : Sc) : f_Mdl_index T (162 : Int32) = ((1 : Int32), (pr (f_Mdl_result (f_Mdl_indexOperand T (162 : Int32)).2 (f_Mdl_indexOperand T (162 : Int32)).1 (f_Mdl_is T (16 : Int32))).2 1 ((f_Mdl_result (f_Mdl_indexOperand T (162 : Int32)).2 (f_Mdl_indexOperand T (162 : Int32)).1 (f_Mdl_is T (16 : Int32))).1))) := rfl
theorem o_A2 {S T : Sc} (h : RR S T) : KO (f_Prc_useIndex S (162 : Int32)) (f_Mdl_index T (162 : Int32)) := by
  rw [ec_A2, em_A2]
  obtain ⟨l1, l2, l3⟩ := s_nv h (WN_I h)
  rw [io_162]
  exact ⟨rfl, rfl, s_loadX2 l3 (WN_fi h (fr_nv (WN_I h))) l1⟩
theorem ec_A3 (S : Sc) : f_Prc_useAccumulator S (163 : Int32) = ((1 : Int32), (f_Reg_loadA (f_Bus_readValue (f_Opd_place S (3 : Int32)).2 (f_Opd_place S (3 : Int32)).1 (f_Reg_wideA S)).2 (f_Bus_readValue (f_Opd_place S (3 : Int32)).2 (f_Opd_place S (3 : Int32)).1 (f_Reg_wideA S)).1)) := rfl
theorem em_A3 (T : Sc) : f_Mdl_arithmetic T (163 : Int32) = ((1 : Int32), (f_Mdl_setAccumulator (f_Mdl_result (f_Mdl_load (f_Mdl_find T (3 : Int32)).2 (f_Mdl_is T (32 : Int32))).2 (f_Mdl_load (f_Mdl_find T (3 : Int32)).2 (f_Mdl_is T (32 : Int32))).1 (f_Mdl_is T (32 : Int32))).2 (f_Mdl_result (f_Mdl_load (f_Mdl_find T (3 : Int32)).2 (f_Mdl_is T (32 : Int32))).2 (f_Mdl_load (f_Mdl_find T (3 : Int32)).2 (f_Mdl_is T (32 : Int32))).1 (f_Mdl_is T (32 : Int32))).1)) := by
  have e : f_Mdl_arithmetic T (163 : Int32) = if (f_Mdl_find T (3 : Int32)).1 = (0 : Int32) then (((0 : Int32), (f_Mdl_find T (3 : Int32)).2)) else (((1 : Int32), (f_Mdl_setAccumulator (f_Mdl_result (f_Mdl_load (f_Mdl_find T (3 : Int32)).2 (f_Mdl_is T (32 : Int32))).2 (f_Mdl_load (f_Mdl_find T (3 : Int32)).2 (f_Mdl_is T (32 : Int32))).1 (f_Mdl_is T (32 : Int32))).2 (f_Mdl_result (f_Mdl_load (f_Mdl_find T (3 : Int32)).2 (f_Mdl_is T (32 : Int32))).2 (f_Mdl_load (f_Mdl_find T (3 : Int32)).2 (f_Mdl_is T (32 : Int32))).1 (f_Mdl_is T (32 : Int32))).1))) := rfl
  rw [e, fd1_3, if_neg (by decide : ¬ (1 : Int32) = 0)]
theorem o_A3 {S T : Sc} (h : RR S T) : KO (f_Prc_useAccumulator S (163 : Int32)) (f_Mdl_arithmetic T (163 : Int32)) := by
  rw [ec_A3, em_A3]
  obtain ⟨f1, f2, f3, f4⟩ := sp_3 h
  obtain ⟨l1, l2, l3⟩ := s_load f2 f3 (WN_A h)
  have lf := (fr_rv (S := (f_Opd_place S 3).2) (c := (f_Opd_place S 3).1) (WN_A h)).trans f4
  have hw := WN_fr h lf
  exact ⟨rfl, rfl, s_setA2 l3 hw l1⟩
theorem ec_A4 (S : Sc) : f_Prc_useIndex S (164 : Int32) = ((1 : Int32), (f_Reg_loadY (f_Bus_readValue (f_Opd_place S (5 : Int32)).2 (f_Opd_place S (5 : Int32)).1 (f_Reg_wideIndex S)).2 (f_Bus_readValue (f_Opd_place S (5 : Int32)).2 (f_Opd_place S (5 : Int32)).1 (f_Reg_wideIndex S)).1)) := rfl
theorem em_A4 (T : Sc) : f_Mdl_index T (164 : Int32) = ((1 : Int32), (pr (f_Mdl_result (f_Mdl_indexOperand T (164 : Int32)).2 (f_Mdl_indexOperand T (164 : Int32)).1 (f_Mdl_is T (16 : Int32))).2 2 ((f_Mdl_result (f_Mdl_indexOperand T (164 : Int32)).2 (f_Mdl_indexOperand T (164 : Int32)).1 (f_Mdl_is T (16 : Int32))).1))) := rfl
theorem o_A4 {S T : Sc} (h : RR S T) : KO (f_Prc_useIndex S (164 : Int32)) (f_Mdl_index T (164 : Int32)) := by
  rw [ec_A4, em_A4]
  obtain ⟨f2, f3, f4, f5⟩ := sp_fi h 5 0 (Or.inl ⟨rfl, rfl⟩)
  obtain ⟨l1, l2, l3⟩ := s_load f2 f3 (WN_I h)
  rw [io_164, is_e f5]
  exact ⟨rfl, rfl, s_loadY2 l3 (WN_fi h ((fr_rv (WN_I h)).trans f4)) l1⟩
theorem ec_A5 (S : Sc) : f_Prc_useAccumulator S (165 : Int32) = ((1 : Int32), (f_Reg_loadA (f_Bus_readValue (f_Opd_place S (5 : Int32)).2 (f_Opd_place S (5 : Int32)).1 (f_Reg_wideA S)).2 (f_Bus_readValue (f_Opd_place S (5 : Int32)).2 (f_Opd_place S (5 : Int32)).1 (f_Reg_wideA S)).1)) := rfl
theorem em_A5 (T : Sc) : f_Mdl_arithmetic T (165 : Int32) = ((1 : Int32), (f_Mdl_setAccumulator (f_Mdl_result (f_Mdl_load (f_Mdl_find T (5 : Int32)).2 (f_Mdl_is T (32 : Int32))).2 (f_Mdl_load (f_Mdl_find T (5 : Int32)).2 (f_Mdl_is T (32 : Int32))).1 (f_Mdl_is T (32 : Int32))).2 (f_Mdl_result (f_Mdl_load (f_Mdl_find T (5 : Int32)).2 (f_Mdl_is T (32 : Int32))).2 (f_Mdl_load (f_Mdl_find T (5 : Int32)).2 (f_Mdl_is T (32 : Int32))).1 (f_Mdl_is T (32 : Int32))).1)) := by
  have e : f_Mdl_arithmetic T (165 : Int32) = if (f_Mdl_find T (5 : Int32)).1 = (0 : Int32) then (((0 : Int32), (f_Mdl_find T (5 : Int32)).2)) else (((1 : Int32), (f_Mdl_setAccumulator (f_Mdl_result (f_Mdl_load (f_Mdl_find T (5 : Int32)).2 (f_Mdl_is T (32 : Int32))).2 (f_Mdl_load (f_Mdl_find T (5 : Int32)).2 (f_Mdl_is T (32 : Int32))).1 (f_Mdl_is T (32 : Int32))).2 (f_Mdl_result (f_Mdl_load (f_Mdl_find T (5 : Int32)).2 (f_Mdl_is T (32 : Int32))).2 (f_Mdl_load (f_Mdl_find T (5 : Int32)).2 (f_Mdl_is T (32 : Int32))).1 (f_Mdl_is T (32 : Int32))).1))) := rfl
  rw [e, fd1_5, if_neg (by decide : ¬ (1 : Int32) = 0)]
theorem o_A5 {S T : Sc} (h : RR S T) : KO (f_Prc_useAccumulator S (165 : Int32)) (f_Mdl_arithmetic T (165 : Int32)) := by
  rw [ec_A5, em_A5]
  obtain ⟨f1, f2, f3, f4⟩ := sp_5 h
  obtain ⟨l1, l2, l3⟩ := s_load f2 f3 (WN_A h)
  have lf := (fr_rv (S := (f_Opd_place S 5).2) (c := (f_Opd_place S 5).1) (WN_A h)).trans f4
  have hw := WN_fr h lf
  exact ⟨rfl, rfl, s_setA2 l3 hw l1⟩
theorem ec_A6 (S : Sc) : f_Prc_useIndex S (166 : Int32) = ((1 : Int32), (f_Reg_loadX (f_Bus_readValue (f_Opd_place S (5 : Int32)).2 (f_Opd_place S (5 : Int32)).1 (f_Reg_wideIndex S)).2 (f_Bus_readValue (f_Opd_place S (5 : Int32)).2 (f_Opd_place S (5 : Int32)).1 (f_Reg_wideIndex S)).1)) := rfl
theorem em_A6 (T : Sc) : f_Mdl_index T (166 : Int32) = ((1 : Int32), (pr (f_Mdl_result (f_Mdl_indexOperand T (166 : Int32)).2 (f_Mdl_indexOperand T (166 : Int32)).1 (f_Mdl_is T (16 : Int32))).2 1 ((f_Mdl_result (f_Mdl_indexOperand T (166 : Int32)).2 (f_Mdl_indexOperand T (166 : Int32)).1 (f_Mdl_is T (16 : Int32))).1))) := rfl
theorem o_A6 {S T : Sc} (h : RR S T) : KO (f_Prc_useIndex S (166 : Int32)) (f_Mdl_index T (166 : Int32)) := by
  rw [ec_A6, em_A6]
  obtain ⟨f2, f3, f4, f5⟩ := sp_fi h 5 0 (Or.inl ⟨rfl, rfl⟩)
  obtain ⟨l1, l2, l3⟩ := s_load f2 f3 (WN_I h)
  rw [io_166, is_e f5]
  exact ⟨rfl, rfl, s_loadX2 l3 (WN_fi h ((fr_rv (WN_I h)).trans f4)) l1⟩
theorem ec_A7 (S : Sc) : f_Prc_useAccumulator S (167 : Int32) = ((1 : Int32), (f_Reg_loadA (f_Bus_readValue (f_Opd_place S (7 : Int32)).2 (f_Opd_place S (7 : Int32)).1 (f_Reg_wideA S)).2 (f_Bus_readValue (f_Opd_place S (7 : Int32)).2 (f_Opd_place S (7 : Int32)).1 (f_Reg_wideA S)).1)) := rfl
theorem em_A7 (T : Sc) : f_Mdl_arithmetic T (167 : Int32) = ((1 : Int32), (f_Mdl_setAccumulator (f_Mdl_result (f_Mdl_load (f_Mdl_find T (7 : Int32)).2 (f_Mdl_is T (32 : Int32))).2 (f_Mdl_load (f_Mdl_find T (7 : Int32)).2 (f_Mdl_is T (32 : Int32))).1 (f_Mdl_is T (32 : Int32))).2 (f_Mdl_result (f_Mdl_load (f_Mdl_find T (7 : Int32)).2 (f_Mdl_is T (32 : Int32))).2 (f_Mdl_load (f_Mdl_find T (7 : Int32)).2 (f_Mdl_is T (32 : Int32))).1 (f_Mdl_is T (32 : Int32))).1)) := by
  have e : f_Mdl_arithmetic T (167 : Int32) = if (f_Mdl_find T (7 : Int32)).1 = (0 : Int32) then (((0 : Int32), (f_Mdl_find T (7 : Int32)).2)) else (((1 : Int32), (f_Mdl_setAccumulator (f_Mdl_result (f_Mdl_load (f_Mdl_find T (7 : Int32)).2 (f_Mdl_is T (32 : Int32))).2 (f_Mdl_load (f_Mdl_find T (7 : Int32)).2 (f_Mdl_is T (32 : Int32))).1 (f_Mdl_is T (32 : Int32))).2 (f_Mdl_result (f_Mdl_load (f_Mdl_find T (7 : Int32)).2 (f_Mdl_is T (32 : Int32))).2 (f_Mdl_load (f_Mdl_find T (7 : Int32)).2 (f_Mdl_is T (32 : Int32))).1 (f_Mdl_is T (32 : Int32))).1))) := rfl
  rw [e, fd1_7, if_neg (by decide : ¬ (1 : Int32) = 0)]
theorem o_A7 {S T : Sc} (h : RR S T) : KO (f_Prc_useAccumulator S (167 : Int32)) (f_Mdl_arithmetic T (167 : Int32)) := by
  rw [ec_A7, em_A7]
  obtain ⟨f1, f2, f3, f4⟩ := sp_7 h
  obtain ⟨l1, l2, l3⟩ := s_load f2 f3 (WN_A h)
  have lf := (fr_rv (S := (f_Opd_place S 7).2) (c := (f_Opd_place S 7).1) (WN_A h)).trans f4
  have hw := WN_fr h lf
  exact ⟨rfl, rfl, s_setA2 l3 hw l1⟩
theorem ec_A8 (S : Sc) : f_Prc_transfer S (168 : Int32) = ((1 : Int32), (f_Reg_loadY S (S.1 0))) := rfl
theorem em_A8 (T : Sc) : f_Mdl_transfer T (168 : Int32) = ((1 : Int32), (pr (f_Mdl_result T (T.1 0) (f_Mdl_is T (16 : Int32))).2 2 ((f_Mdl_result T (T.1 0) (f_Mdl_is T (16 : Int32))).1))) := rfl
theorem o_A8 {S T : Sc} (h : RR S T) : KO (f_Prc_transfer S (168 : Int32)) (f_Mdl_transfer T (168 : Int32)) := by
  rw [ec_A8, em_A8]
  exact ⟨rfl, rfl, s_loadY2 h (WN_I h) (RRe_0 h)⟩
theorem ec_A9 (S : Sc) : f_Prc_useAccumulator S (169 : Int32) = ((1 : Int32), (f_Reg_loadA (f_Opd_nextValue S (f_Reg_wideA S)).2 (f_Opd_nextValue S (f_Reg_wideA S)).1)) := rfl
theorem em_A9 (T : Sc) : f_Mdl_arithmetic T (169 : Int32) = ((1 : Int32), (f_Mdl_setAccumulator (f_Mdl_result (f_Mdl_immediate T (f_Mdl_is T (32 : Int32))).2 (f_Mdl_immediate T (f_Mdl_is T (32 : Int32))).1 (f_Mdl_is T (32 : Int32))).2 (f_Mdl_result (f_Mdl_immediate T (f_Mdl_is T (32 : Int32))).2 (f_Mdl_immediate T (f_Mdl_is T (32 : Int32))).1 (f_Mdl_is T (32 : Int32))).1)) := rfl
theorem o_A9 {S T : Sc} (h : RR S T) : KO (f_Prc_useAccumulator S (169 : Int32)) (f_Mdl_arithmetic T (169 : Int32)) := by
  rw [ec_A9, em_A9]
  obtain ⟨l1, l2, l3⟩ := s_nv h (WN_A h)
  have lf := fr_nv (S := S) (WN_A h)
  have hw := WN_fr h lf
  exact ⟨rfl, rfl, s_setA2 l3 hw l1⟩
theorem ec_AA (S : Sc) : f_Prc_transfer S (170 : Int32) = ((1 : Int32), (f_Reg_loadX S (S.1 0))) := rfl
theorem em_AA (T : Sc) : f_Mdl_transfer T (170 : Int32) = ((1 : Int32), (pr (f_Mdl_result T (T.1 0) (f_Mdl_is T (16 : Int32))).2 1 ((f_Mdl_result T (T.1 0) (f_Mdl_is T (16 : Int32))).1))) := rfl
theorem o_AA {S T : Sc} (h : RR S T) : KO (f_Prc_transfer S (170 : Int32)) (f_Mdl_transfer T (170 : Int32)) := by
  rw [ec_AA, em_AA]
  exact ⟨rfl, rfl, s_loadX2 h (WN_I h) (RRe_0 h)⟩
theorem ec_AB (S : Sc) : f_Prc_pull S (171 : Int32) = ((1 : Int32), (f_Reg_loadDataBank (f_Stk_pullByte S).2 (f_Stk_pullByte S).1)) := rfl
theorem em_AB (T : Sc) : f_Mdl_stack T (171 : Int32) = ((1 : Int32), (pr (f_Mdl_pullOf T (1 : Int32)).2 5 ((f_Mdl_pullOf T (1 : Int32)).1))) := rfl
theorem o_AB {S T : Sc} (h : RR S T) : KO (f_Prc_pull S (171 : Int32)) (f_Mdl_stack T (171 : Int32)) := by
  rw [ec_AB, em_AB]
  obtain ⟨a1, a2, a3⟩ := s_pull h
  have k := s_loadB a3 a2
  rw [a1] at k
  rw [pf1, a1]
  exact ⟨rfl, rfl, k⟩
theorem ec_AC (S : Sc) : f_Prc_useIndex S (172 : Int32) = ((1 : Int32), (f_Reg_loadY (f_Bus_readValue (f_Opd_place S (13 : Int32)).2 (f_Opd_place S (13 : Int32)).1 (f_Reg_wideIndex S)).2 (f_Bus_readValue (f_Opd_place S (13 : Int32)).2 (f_Opd_place S (13 : Int32)).1 (f_Reg_wideIndex S)).1)) := rfl
theorem em_AC (T : Sc) : f_Mdl_index T (172 : Int32) = ((1 : Int32), (pr (f_Mdl_result (f_Mdl_indexOperand T (172 : Int32)).2 (f_Mdl_indexOperand T (172 : Int32)).1 (f_Mdl_is T (16 : Int32))).2 2 ((f_Mdl_result (f_Mdl_indexOperand T (172 : Int32)).2 (f_Mdl_indexOperand T (172 : Int32)).1 (f_Mdl_is T (16 : Int32))).1))) := rfl
theorem o_AC {S T : Sc} (h : RR S T) : KO (f_Prc_useIndex S (172 : Int32)) (f_Mdl_index T (172 : Int32)) := by
  rw [ec_AC, em_AC]
  obtain ⟨f2, f3, f4, f5⟩ := sp_fi h 13 1 (Or.inr ⟨rfl, rfl⟩)
  obtain ⟨l1, l2, l3⟩ := s_load f2 f3 (WN_I h)
  rw [io_172, is_e f5]
  exact ⟨rfl, rfl, s_loadY2 l3 (WN_fi h ((fr_rv (WN_I h)).trans f4)) l1⟩
theorem ec_AD (S : Sc) : f_Prc_useAccumulator S (173 : Int32) = ((1 : Int32), (f_Reg_loadA (f_Bus_readValue (f_Opd_place S (13 : Int32)).2 (f_Opd_place S (13 : Int32)).1 (f_Reg_wideA S)).2 (f_Bus_readValue (f_Opd_place S (13 : Int32)).2 (f_Opd_place S (13 : Int32)).1 (f_Reg_wideA S)).1)) := rfl
theorem em_AD (T : Sc) : f_Mdl_arithmetic T (173 : Int32) = ((1 : Int32), (f_Mdl_setAccumulator (f_Mdl_result (f_Mdl_load (f_Mdl_find T (13 : Int32)).2 (f_Mdl_is T (32 : Int32))).2 (f_Mdl_load (f_Mdl_find T (13 : Int32)).2 (f_Mdl_is T (32 : Int32))).1 (f_Mdl_is T (32 : Int32))).2 (f_Mdl_result (f_Mdl_load (f_Mdl_find T (13 : Int32)).2 (f_Mdl_is T (32 : Int32))).2 (f_Mdl_load (f_Mdl_find T (13 : Int32)).2 (f_Mdl_is T (32 : Int32))).1 (f_Mdl_is T (32 : Int32))).1)) := by
  have e : f_Mdl_arithmetic T (173 : Int32) = if (f_Mdl_find T (13 : Int32)).1 = (0 : Int32) then (((0 : Int32), (f_Mdl_find T (13 : Int32)).2)) else (((1 : Int32), (f_Mdl_setAccumulator (f_Mdl_result (f_Mdl_load (f_Mdl_find T (13 : Int32)).2 (f_Mdl_is T (32 : Int32))).2 (f_Mdl_load (f_Mdl_find T (13 : Int32)).2 (f_Mdl_is T (32 : Int32))).1 (f_Mdl_is T (32 : Int32))).2 (f_Mdl_result (f_Mdl_load (f_Mdl_find T (13 : Int32)).2 (f_Mdl_is T (32 : Int32))).2 (f_Mdl_load (f_Mdl_find T (13 : Int32)).2 (f_Mdl_is T (32 : Int32))).1 (f_Mdl_is T (32 : Int32))).1))) := rfl
  rw [e, fd1_13, if_neg (by decide : ¬ (1 : Int32) = 0)]
theorem o_AD {S T : Sc} (h : RR S T) : KO (f_Prc_useAccumulator S (173 : Int32)) (f_Mdl_arithmetic T (173 : Int32)) := by
  rw [ec_AD, em_AD]
  obtain ⟨f1, f2, f3, f4⟩ := sp_13 h
  obtain ⟨l1, l2, l3⟩ := s_load f2 f3 (WN_A h)
  have lf := (fr_rv (S := (f_Opd_place S 13).2) (c := (f_Opd_place S 13).1) (WN_A h)).trans f4
  have hw := WN_fr h lf
  exact ⟨rfl, rfl, s_setA2 l3 hw l1⟩
theorem ec_AE (S : Sc) : f_Prc_useIndex S (174 : Int32) = ((1 : Int32), (f_Reg_loadX (f_Bus_readValue (f_Opd_place S (13 : Int32)).2 (f_Opd_place S (13 : Int32)).1 (f_Reg_wideIndex S)).2 (f_Bus_readValue (f_Opd_place S (13 : Int32)).2 (f_Opd_place S (13 : Int32)).1 (f_Reg_wideIndex S)).1)) := rfl
theorem em_AE (T : Sc) : f_Mdl_index T (174 : Int32) = ((1 : Int32), (pr (f_Mdl_result (f_Mdl_indexOperand T (174 : Int32)).2 (f_Mdl_indexOperand T (174 : Int32)).1 (f_Mdl_is T (16 : Int32))).2 1 ((f_Mdl_result (f_Mdl_indexOperand T (174 : Int32)).2 (f_Mdl_indexOperand T (174 : Int32)).1 (f_Mdl_is T (16 : Int32))).1))) := rfl
theorem o_AE {S T : Sc} (h : RR S T) : KO (f_Prc_useIndex S (174 : Int32)) (f_Mdl_index T (174 : Int32)) := by
  rw [ec_AE, em_AE]
  obtain ⟨f2, f3, f4, f5⟩ := sp_fi h 13 1 (Or.inr ⟨rfl, rfl⟩)
  obtain ⟨l1, l2, l3⟩ := s_load f2 f3 (WN_I h)
  rw [io_174, is_e f5]
  exact ⟨rfl, rfl, s_loadX2 l3 (WN_fi h ((fr_rv (WN_I h)).trans f4)) l1⟩
theorem ec_AF (S : Sc) : f_Prc_useAccumulator S (175 : Int32) = ((1 : Int32), (f_Reg_loadA (f_Bus_readValue (f_Opd_place S (15 : Int32)).2 (f_Opd_place S (15 : Int32)).1 (f_Reg_wideA S)).2 (f_Bus_readValue (f_Opd_place S (15 : Int32)).2 (f_Opd_place S (15 : Int32)).1 (f_Reg_wideA S)).1)) := rfl
theorem em_AF (T : Sc) : f_Mdl_arithmetic T (175 : Int32) = ((1 : Int32), (f_Mdl_setAccumulator (f_Mdl_result (f_Mdl_load (f_Mdl_find T (15 : Int32)).2 (f_Mdl_is T (32 : Int32))).2 (f_Mdl_load (f_Mdl_find T (15 : Int32)).2 (f_Mdl_is T (32 : Int32))).1 (f_Mdl_is T (32 : Int32))).2 (f_Mdl_result (f_Mdl_load (f_Mdl_find T (15 : Int32)).2 (f_Mdl_is T (32 : Int32))).2 (f_Mdl_load (f_Mdl_find T (15 : Int32)).2 (f_Mdl_is T (32 : Int32))).1 (f_Mdl_is T (32 : Int32))).1)) := by
  have e : f_Mdl_arithmetic T (175 : Int32) = if (f_Mdl_find T (15 : Int32)).1 = (0 : Int32) then (((0 : Int32), (f_Mdl_find T (15 : Int32)).2)) else (((1 : Int32), (f_Mdl_setAccumulator (f_Mdl_result (f_Mdl_load (f_Mdl_find T (15 : Int32)).2 (f_Mdl_is T (32 : Int32))).2 (f_Mdl_load (f_Mdl_find T (15 : Int32)).2 (f_Mdl_is T (32 : Int32))).1 (f_Mdl_is T (32 : Int32))).2 (f_Mdl_result (f_Mdl_load (f_Mdl_find T (15 : Int32)).2 (f_Mdl_is T (32 : Int32))).2 (f_Mdl_load (f_Mdl_find T (15 : Int32)).2 (f_Mdl_is T (32 : Int32))).1 (f_Mdl_is T (32 : Int32))).1))) := rfl
  rw [e, fd1_15, if_neg (by decide : ¬ (1 : Int32) = 0)]
theorem o_AF {S T : Sc} (h : RR S T) : KO (f_Prc_useAccumulator S (175 : Int32)) (f_Mdl_arithmetic T (175 : Int32)) := by
  rw [ec_AF, em_AF]
  obtain ⟨f1, f2, f3, f4⟩ := sp_15 h
  obtain ⟨l1, l2, l3⟩ := s_load f2 f3 (WN_A h)
  have lf := (fr_rv (S := (f_Opd_place S 15).2) (c := (f_Opd_place S 15).1) (WN_A h)).trans f4
  have hw := WN_fr h lf
  exact ⟨rfl, rfl, s_setA2 l3 hw l1⟩
theorem ec_B0 (S : Sc) : f_Prc_branch S (176 : Int32) = if (f_Reg_has (f_Opd_nextByte S).2 (bf ((2 : Int32)).toNatClampNeg)) = (1 : Int32) then (((1 : Int32), (f_Reg_jumpTo (f_Opd_nextByte S).2 (((f_Opd_nextByte S).2.1 7) + (((f_Opd_nextByte S).1).toInt8.toInt32))))) else (((1 : Int32), (f_Opd_nextByte S).2)) := rfl
theorem em_B0 (T : Sc) : f_Mdl_jump T (176 : Int32) = ((1 : Int32), (f_Mdl_branch T (f_Mdl_is T (1 : Int32)))) := rfl
theorem o_B0 {S T : Sc} (h : RR S T) : KO (f_Prc_branch S (176 : Int32)) (f_Mdl_jump T (176 : Int32)) := by
  rw [ec_B0, em_B0]
  have e : f_Reg_has (f_Opd_nextByte S).2 (1 : Int32) = f_Mdl_is T (1 : Int32) := has_n h (1 : Int32)
  have eb : bf (2 : Int32).toNatClampNeg = (1 : Int32) := rfl
  rw [eb, e]
  have b := s_br (x := f_Mdl_is T 1) h
  by_cases z : f_Mdl_is T (1 : Int32) = (1 : Int32)
  · rw [if_pos z]; exact ⟨rfl, rfl, b.1 (by rw [z]; decide)⟩
  · rw [if_neg z]; exact ⟨rfl, rfl, b.2 (is_01 z)⟩
theorem ec_B1 (S : Sc) : f_Prc_useAccumulator S (177 : Int32) = ((1 : Int32), (f_Reg_loadA (f_Bus_readValue (f_Opd_place S (17 : Int32)).2 (f_Opd_place S (17 : Int32)).1 (f_Reg_wideA S)).2 (f_Bus_readValue (f_Opd_place S (17 : Int32)).2 (f_Opd_place S (17 : Int32)).1 (f_Reg_wideA S)).1)) := rfl
theorem em_B1 (T : Sc) : f_Mdl_arithmetic T (177 : Int32) = ((1 : Int32), (f_Mdl_setAccumulator (f_Mdl_result (f_Mdl_load (f_Mdl_find T (17 : Int32)).2 (f_Mdl_is T (32 : Int32))).2 (f_Mdl_load (f_Mdl_find T (17 : Int32)).2 (f_Mdl_is T (32 : Int32))).1 (f_Mdl_is T (32 : Int32))).2 (f_Mdl_result (f_Mdl_load (f_Mdl_find T (17 : Int32)).2 (f_Mdl_is T (32 : Int32))).2 (f_Mdl_load (f_Mdl_find T (17 : Int32)).2 (f_Mdl_is T (32 : Int32))).1 (f_Mdl_is T (32 : Int32))).1)) := by
  have e : f_Mdl_arithmetic T (177 : Int32) = if (f_Mdl_find T (17 : Int32)).1 = (0 : Int32) then (((0 : Int32), (f_Mdl_find T (17 : Int32)).2)) else (((1 : Int32), (f_Mdl_setAccumulator (f_Mdl_result (f_Mdl_load (f_Mdl_find T (17 : Int32)).2 (f_Mdl_is T (32 : Int32))).2 (f_Mdl_load (f_Mdl_find T (17 : Int32)).2 (f_Mdl_is T (32 : Int32))).1 (f_Mdl_is T (32 : Int32))).2 (f_Mdl_result (f_Mdl_load (f_Mdl_find T (17 : Int32)).2 (f_Mdl_is T (32 : Int32))).2 (f_Mdl_load (f_Mdl_find T (17 : Int32)).2 (f_Mdl_is T (32 : Int32))).1 (f_Mdl_is T (32 : Int32))).1))) := rfl
  rw [e, fd1_17, if_neg (by decide : ¬ (1 : Int32) = 0)]
theorem o_B1 {S T : Sc} (h : RR S T) : KO (f_Prc_useAccumulator S (177 : Int32)) (f_Mdl_arithmetic T (177 : Int32)) := by
  rw [ec_B1, em_B1]
  obtain ⟨f1, f2, f3, f4⟩ := sp_17 h
  obtain ⟨l1, l2, l3⟩ := s_load f2 f3 (WN_A h)
  have lf := (fr_rv (S := (f_Opd_place S 17).2) (c := (f_Opd_place S 17).1) (WN_A h)).trans f4
  have hw := WN_fr h lf
  exact ⟨rfl, rfl, s_setA2 l3 hw l1⟩
theorem ec_B2 (S : Sc) : f_Prc_useAccumulator S (178 : Int32) = ((1 : Int32), (f_Reg_loadA (f_Bus_readValue (f_Opd_place S (18 : Int32)).2 (f_Opd_place S (18 : Int32)).1 (f_Reg_wideA S)).2 (f_Bus_readValue (f_Opd_place S (18 : Int32)).2 (f_Opd_place S (18 : Int32)).1 (f_Reg_wideA S)).1)) := rfl
theorem em_B2 (T : Sc) : f_Mdl_arithmetic T (178 : Int32) = ((1 : Int32), (f_Mdl_setAccumulator (f_Mdl_result (f_Mdl_load (f_Mdl_find T (18 : Int32)).2 (f_Mdl_is T (32 : Int32))).2 (f_Mdl_load (f_Mdl_find T (18 : Int32)).2 (f_Mdl_is T (32 : Int32))).1 (f_Mdl_is T (32 : Int32))).2 (f_Mdl_result (f_Mdl_load (f_Mdl_find T (18 : Int32)).2 (f_Mdl_is T (32 : Int32))).2 (f_Mdl_load (f_Mdl_find T (18 : Int32)).2 (f_Mdl_is T (32 : Int32))).1 (f_Mdl_is T (32 : Int32))).1)) := by
  have e : f_Mdl_arithmetic T (178 : Int32) = if (f_Mdl_find T (18 : Int32)).1 = (0 : Int32) then (((0 : Int32), (f_Mdl_find T (18 : Int32)).2)) else (((1 : Int32), (f_Mdl_setAccumulator (f_Mdl_result (f_Mdl_load (f_Mdl_find T (18 : Int32)).2 (f_Mdl_is T (32 : Int32))).2 (f_Mdl_load (f_Mdl_find T (18 : Int32)).2 (f_Mdl_is T (32 : Int32))).1 (f_Mdl_is T (32 : Int32))).2 (f_Mdl_result (f_Mdl_load (f_Mdl_find T (18 : Int32)).2 (f_Mdl_is T (32 : Int32))).2 (f_Mdl_load (f_Mdl_find T (18 : Int32)).2 (f_Mdl_is T (32 : Int32))).1 (f_Mdl_is T (32 : Int32))).1))) := rfl
  rw [e, fd1_18, if_neg (by decide : ¬ (1 : Int32) = 0)]
theorem o_B2 {S T : Sc} (h : RR S T) : KO (f_Prc_useAccumulator S (178 : Int32)) (f_Mdl_arithmetic T (178 : Int32)) := by
  rw [ec_B2, em_B2]
  obtain ⟨f1, f2, f3, f4⟩ := sp_18 h
  obtain ⟨l1, l2, l3⟩ := s_load f2 f3 (WN_A h)
  have lf := (fr_rv (S := (f_Opd_place S 18).2) (c := (f_Opd_place S 18).1) (WN_A h)).trans f4
  have hw := WN_fr h lf
  exact ⟨rfl, rfl, s_setA2 l3 hw l1⟩
theorem ec_B3 (S : Sc) : f_Prc_useAccumulator S (179 : Int32) = ((1 : Int32), (f_Reg_loadA (f_Bus_readValue (f_Opd_place S (19 : Int32)).2 (f_Opd_place S (19 : Int32)).1 (f_Reg_wideA S)).2 (f_Bus_readValue (f_Opd_place S (19 : Int32)).2 (f_Opd_place S (19 : Int32)).1 (f_Reg_wideA S)).1)) := rfl
theorem em_B3 (T : Sc) : f_Mdl_arithmetic T (179 : Int32) = ((1 : Int32), (f_Mdl_setAccumulator (f_Mdl_result (f_Mdl_load (f_Mdl_find T (19 : Int32)).2 (f_Mdl_is T (32 : Int32))).2 (f_Mdl_load (f_Mdl_find T (19 : Int32)).2 (f_Mdl_is T (32 : Int32))).1 (f_Mdl_is T (32 : Int32))).2 (f_Mdl_result (f_Mdl_load (f_Mdl_find T (19 : Int32)).2 (f_Mdl_is T (32 : Int32))).2 (f_Mdl_load (f_Mdl_find T (19 : Int32)).2 (f_Mdl_is T (32 : Int32))).1 (f_Mdl_is T (32 : Int32))).1)) := by
  have e : f_Mdl_arithmetic T (179 : Int32) = if (f_Mdl_find T (19 : Int32)).1 = (0 : Int32) then (((0 : Int32), (f_Mdl_find T (19 : Int32)).2)) else (((1 : Int32), (f_Mdl_setAccumulator (f_Mdl_result (f_Mdl_load (f_Mdl_find T (19 : Int32)).2 (f_Mdl_is T (32 : Int32))).2 (f_Mdl_load (f_Mdl_find T (19 : Int32)).2 (f_Mdl_is T (32 : Int32))).1 (f_Mdl_is T (32 : Int32))).2 (f_Mdl_result (f_Mdl_load (f_Mdl_find T (19 : Int32)).2 (f_Mdl_is T (32 : Int32))).2 (f_Mdl_load (f_Mdl_find T (19 : Int32)).2 (f_Mdl_is T (32 : Int32))).1 (f_Mdl_is T (32 : Int32))).1))) := rfl
  rw [e, fd1_19, if_neg (by decide : ¬ (1 : Int32) = 0)]
theorem o_B3 {S T : Sc} (h : RR S T) : KO (f_Prc_useAccumulator S (179 : Int32)) (f_Mdl_arithmetic T (179 : Int32)) := by
  rw [ec_B3, em_B3]
  obtain ⟨f1, f2, f3, f4⟩ := sp_19 h
  obtain ⟨l1, l2, l3⟩ := s_load f2 f3 (WN_A h)
  have lf := (fr_rv (S := (f_Opd_place S 19).2) (c := (f_Opd_place S 19).1) (WN_A h)).trans f4
  have hw := WN_fr h lf
  exact ⟨rfl, rfl, s_setA2 l3 hw l1⟩
theorem ec_B5 (S : Sc) : f_Prc_useAccumulator S (181 : Int32) = ((1 : Int32), (f_Reg_loadA (f_Bus_readValue (f_Opd_place S (21 : Int32)).2 (f_Opd_place S (21 : Int32)).1 (f_Reg_wideA S)).2 (f_Bus_readValue (f_Opd_place S (21 : Int32)).2 (f_Opd_place S (21 : Int32)).1 (f_Reg_wideA S)).1)) := rfl
theorem em_B5 (T : Sc) : f_Mdl_arithmetic T (181 : Int32) = ((1 : Int32), (f_Mdl_setAccumulator (f_Mdl_result (f_Mdl_load (f_Mdl_find T (21 : Int32)).2 (f_Mdl_is T (32 : Int32))).2 (f_Mdl_load (f_Mdl_find T (21 : Int32)).2 (f_Mdl_is T (32 : Int32))).1 (f_Mdl_is T (32 : Int32))).2 (f_Mdl_result (f_Mdl_load (f_Mdl_find T (21 : Int32)).2 (f_Mdl_is T (32 : Int32))).2 (f_Mdl_load (f_Mdl_find T (21 : Int32)).2 (f_Mdl_is T (32 : Int32))).1 (f_Mdl_is T (32 : Int32))).1)) := by
  have e : f_Mdl_arithmetic T (181 : Int32) = if (f_Mdl_find T (21 : Int32)).1 = (0 : Int32) then (((0 : Int32), (f_Mdl_find T (21 : Int32)).2)) else (((1 : Int32), (f_Mdl_setAccumulator (f_Mdl_result (f_Mdl_load (f_Mdl_find T (21 : Int32)).2 (f_Mdl_is T (32 : Int32))).2 (f_Mdl_load (f_Mdl_find T (21 : Int32)).2 (f_Mdl_is T (32 : Int32))).1 (f_Mdl_is T (32 : Int32))).2 (f_Mdl_result (f_Mdl_load (f_Mdl_find T (21 : Int32)).2 (f_Mdl_is T (32 : Int32))).2 (f_Mdl_load (f_Mdl_find T (21 : Int32)).2 (f_Mdl_is T (32 : Int32))).1 (f_Mdl_is T (32 : Int32))).1))) := rfl
  rw [e, fd1_21, if_neg (by decide : ¬ (1 : Int32) = 0)]
theorem o_B5 {S T : Sc} (h : RR S T) : KO (f_Prc_useAccumulator S (181 : Int32)) (f_Mdl_arithmetic T (181 : Int32)) := by
  rw [ec_B5, em_B5]
  obtain ⟨f1, f2, f3, f4⟩ := sp_21 h
  obtain ⟨l1, l2, l3⟩ := s_load f2 f3 (WN_A h)
  have lf := (fr_rv (S := (f_Opd_place S 21).2) (c := (f_Opd_place S 21).1) (WN_A h)).trans f4
  have hw := WN_fr h lf
  exact ⟨rfl, rfl, s_setA2 l3 hw l1⟩
theorem ec_B7 (S : Sc) : f_Prc_useAccumulator S (183 : Int32) = ((1 : Int32), (f_Reg_loadA (f_Bus_readValue (f_Opd_place S (23 : Int32)).2 (f_Opd_place S (23 : Int32)).1 (f_Reg_wideA S)).2 (f_Bus_readValue (f_Opd_place S (23 : Int32)).2 (f_Opd_place S (23 : Int32)).1 (f_Reg_wideA S)).1)) := rfl
theorem em_B7 (T : Sc) : f_Mdl_arithmetic T (183 : Int32) = ((1 : Int32), (f_Mdl_setAccumulator (f_Mdl_result (f_Mdl_load (f_Mdl_find T (23 : Int32)).2 (f_Mdl_is T (32 : Int32))).2 (f_Mdl_load (f_Mdl_find T (23 : Int32)).2 (f_Mdl_is T (32 : Int32))).1 (f_Mdl_is T (32 : Int32))).2 (f_Mdl_result (f_Mdl_load (f_Mdl_find T (23 : Int32)).2 (f_Mdl_is T (32 : Int32))).2 (f_Mdl_load (f_Mdl_find T (23 : Int32)).2 (f_Mdl_is T (32 : Int32))).1 (f_Mdl_is T (32 : Int32))).1)) := by
  have e : f_Mdl_arithmetic T (183 : Int32) = if (f_Mdl_find T (23 : Int32)).1 = (0 : Int32) then (((0 : Int32), (f_Mdl_find T (23 : Int32)).2)) else (((1 : Int32), (f_Mdl_setAccumulator (f_Mdl_result (f_Mdl_load (f_Mdl_find T (23 : Int32)).2 (f_Mdl_is T (32 : Int32))).2 (f_Mdl_load (f_Mdl_find T (23 : Int32)).2 (f_Mdl_is T (32 : Int32))).1 (f_Mdl_is T (32 : Int32))).2 (f_Mdl_result (f_Mdl_load (f_Mdl_find T (23 : Int32)).2 (f_Mdl_is T (32 : Int32))).2 (f_Mdl_load (f_Mdl_find T (23 : Int32)).2 (f_Mdl_is T (32 : Int32))).1 (f_Mdl_is T (32 : Int32))).1))) := rfl
  rw [e, fd1_23, if_neg (by decide : ¬ (1 : Int32) = 0)]
theorem o_B7 {S T : Sc} (h : RR S T) : KO (f_Prc_useAccumulator S (183 : Int32)) (f_Mdl_arithmetic T (183 : Int32)) := by
  rw [ec_B7, em_B7]
  obtain ⟨f1, f2, f3, f4⟩ := sp_23 h
  obtain ⟨l1, l2, l3⟩ := s_load f2 f3 (WN_A h)
  have lf := (fr_rv (S := (f_Opd_place S 23).2) (c := (f_Opd_place S 23).1) (WN_A h)).trans f4
  have hw := WN_fr h lf
  exact ⟨rfl, rfl, s_setA2 l3 hw l1⟩
theorem ec_B8 (S : Sc) : f_Prc_changeFlags S (184 : Int32) = ((1 : Int32), (f_Reg_putFlag S (64 : Int32) (0 : Int32))) := rfl
theorem em_B8 (T : Sc) : f_Mdl_other T (184 : Int32) = ((1 : Int32), (f_Mdl_flag T (64 : Int32) (0 : Int32))) := rfl
theorem o_B8 {S T : Sc} (h : RR S T) : KO (f_Prc_changeFlags S (184 : Int32)) (f_Mdl_other T (184 : Int32)) := by
  rw [ec_B8, em_B8]
  exact ⟨rfl, rfl, s_flag h 64 0 (by decide)⟩
theorem ec_B9 (S : Sc) : f_Prc_useAccumulator S (185 : Int32) = ((1 : Int32), (f_Reg_loadA (f_Bus_readValue (f_Opd_place S (25 : Int32)).2 (f_Opd_place S (25 : Int32)).1 (f_Reg_wideA S)).2 (f_Bus_readValue (f_Opd_place S (25 : Int32)).2 (f_Opd_place S (25 : Int32)).1 (f_Reg_wideA S)).1)) := rfl
theorem em_B9 (T : Sc) : f_Mdl_arithmetic T (185 : Int32) = ((1 : Int32), (f_Mdl_setAccumulator (f_Mdl_result (f_Mdl_load (f_Mdl_find T (25 : Int32)).2 (f_Mdl_is T (32 : Int32))).2 (f_Mdl_load (f_Mdl_find T (25 : Int32)).2 (f_Mdl_is T (32 : Int32))).1 (f_Mdl_is T (32 : Int32))).2 (f_Mdl_result (f_Mdl_load (f_Mdl_find T (25 : Int32)).2 (f_Mdl_is T (32 : Int32))).2 (f_Mdl_load (f_Mdl_find T (25 : Int32)).2 (f_Mdl_is T (32 : Int32))).1 (f_Mdl_is T (32 : Int32))).1)) := by
  have e : f_Mdl_arithmetic T (185 : Int32) = if (f_Mdl_find T (25 : Int32)).1 = (0 : Int32) then (((0 : Int32), (f_Mdl_find T (25 : Int32)).2)) else (((1 : Int32), (f_Mdl_setAccumulator (f_Mdl_result (f_Mdl_load (f_Mdl_find T (25 : Int32)).2 (f_Mdl_is T (32 : Int32))).2 (f_Mdl_load (f_Mdl_find T (25 : Int32)).2 (f_Mdl_is T (32 : Int32))).1 (f_Mdl_is T (32 : Int32))).2 (f_Mdl_result (f_Mdl_load (f_Mdl_find T (25 : Int32)).2 (f_Mdl_is T (32 : Int32))).2 (f_Mdl_load (f_Mdl_find T (25 : Int32)).2 (f_Mdl_is T (32 : Int32))).1 (f_Mdl_is T (32 : Int32))).1))) := rfl
  rw [e, fd1_25, if_neg (by decide : ¬ (1 : Int32) = 0)]
theorem o_B9 {S T : Sc} (h : RR S T) : KO (f_Prc_useAccumulator S (185 : Int32)) (f_Mdl_arithmetic T (185 : Int32)) := by
  rw [ec_B9, em_B9]
  obtain ⟨f1, f2, f3, f4⟩ := sp_25 h
  obtain ⟨l1, l2, l3⟩ := s_load f2 f3 (WN_A h)
  have lf := (fr_rv (S := (f_Opd_place S 25).2) (c := (f_Opd_place S 25).1) (WN_A h)).trans f4
  have hw := WN_fr h lf
  exact ⟨rfl, rfl, s_setA2 l3 hw l1⟩
theorem ec_BA (S : Sc) : f_Prc_transfer S (186 : Int32) = ((1 : Int32), (f_Reg_loadX S (S.1 3))) := rfl
theorem em_BA (T : Sc) : f_Mdl_transfer T (186 : Int32) = ((1 : Int32), (pr (f_Mdl_result T (T.1 3) (f_Mdl_is T (16 : Int32))).2 1 ((f_Mdl_result T (T.1 3) (f_Mdl_is T (16 : Int32))).1))) := rfl
theorem o_BA {S T : Sc} (h : RR S T) : KO (f_Prc_transfer S (186 : Int32)) (f_Mdl_transfer T (186 : Int32)) := by
  rw [ec_BA, em_BA]
  exact ⟨rfl, rfl, s_loadX2 h (WN_I h) (RRe_3 h)⟩
theorem ec_BB (S : Sc) : f_Prc_transfer S (187 : Int32) = ((1 : Int32), (f_Reg_loadX S (S.1 2))) := rfl
theorem em_BB (T : Sc) : f_Mdl_transfer T (187 : Int32) = ((1 : Int32), (pr (f_Mdl_result T (T.1 2) (f_Mdl_is T (16 : Int32))).2 1 ((f_Mdl_result T (T.1 2) (f_Mdl_is T (16 : Int32))).1))) := rfl
theorem o_BB {S T : Sc} (h : RR S T) : KO (f_Prc_transfer S (187 : Int32)) (f_Mdl_transfer T (187 : Int32)) := by
  rw [ec_BB, em_BB]
  exact ⟨rfl, rfl, s_loadX2 h (WN_I h) (RRe_2 h)⟩
theorem ec_BD (S : Sc) : f_Prc_useAccumulator S (189 : Int32) = ((1 : Int32), (f_Reg_loadA (f_Bus_readValue (f_Opd_place S (29 : Int32)).2 (f_Opd_place S (29 : Int32)).1 (f_Reg_wideA S)).2 (f_Bus_readValue (f_Opd_place S (29 : Int32)).2 (f_Opd_place S (29 : Int32)).1 (f_Reg_wideA S)).1)) := rfl
theorem em_BD (T : Sc) : f_Mdl_arithmetic T (189 : Int32) = ((1 : Int32), (f_Mdl_setAccumulator (f_Mdl_result (f_Mdl_load (f_Mdl_find T (29 : Int32)).2 (f_Mdl_is T (32 : Int32))).2 (f_Mdl_load (f_Mdl_find T (29 : Int32)).2 (f_Mdl_is T (32 : Int32))).1 (f_Mdl_is T (32 : Int32))).2 (f_Mdl_result (f_Mdl_load (f_Mdl_find T (29 : Int32)).2 (f_Mdl_is T (32 : Int32))).2 (f_Mdl_load (f_Mdl_find T (29 : Int32)).2 (f_Mdl_is T (32 : Int32))).1 (f_Mdl_is T (32 : Int32))).1)) := by
  have e : f_Mdl_arithmetic T (189 : Int32) = if (f_Mdl_find T (29 : Int32)).1 = (0 : Int32) then (((0 : Int32), (f_Mdl_find T (29 : Int32)).2)) else (((1 : Int32), (f_Mdl_setAccumulator (f_Mdl_result (f_Mdl_load (f_Mdl_find T (29 : Int32)).2 (f_Mdl_is T (32 : Int32))).2 (f_Mdl_load (f_Mdl_find T (29 : Int32)).2 (f_Mdl_is T (32 : Int32))).1 (f_Mdl_is T (32 : Int32))).2 (f_Mdl_result (f_Mdl_load (f_Mdl_find T (29 : Int32)).2 (f_Mdl_is T (32 : Int32))).2 (f_Mdl_load (f_Mdl_find T (29 : Int32)).2 (f_Mdl_is T (32 : Int32))).1 (f_Mdl_is T (32 : Int32))).1))) := rfl
  rw [e, fd1_29, if_neg (by decide : ¬ (1 : Int32) = 0)]
theorem o_BD {S T : Sc} (h : RR S T) : KO (f_Prc_useAccumulator S (189 : Int32)) (f_Mdl_arithmetic T (189 : Int32)) := by
  rw [ec_BD, em_BD]
  obtain ⟨f1, f2, f3, f4⟩ := sp_29 h
  obtain ⟨l1, l2, l3⟩ := s_load f2 f3 (WN_A h)
  have lf := (fr_rv (S := (f_Opd_place S 29).2) (c := (f_Opd_place S 29).1) (WN_A h)).trans f4
  have hw := WN_fr h lf
  exact ⟨rfl, rfl, s_setA2 l3 hw l1⟩
theorem ec_BF (S : Sc) : f_Prc_useAccumulator S (191 : Int32) = ((1 : Int32), (f_Reg_loadA (f_Bus_readValue (f_Opd_place S (31 : Int32)).2 (f_Opd_place S (31 : Int32)).1 (f_Reg_wideA S)).2 (f_Bus_readValue (f_Opd_place S (31 : Int32)).2 (f_Opd_place S (31 : Int32)).1 (f_Reg_wideA S)).1)) := rfl
theorem em_BF (T : Sc) : f_Mdl_arithmetic T (191 : Int32) = ((1 : Int32), (f_Mdl_setAccumulator (f_Mdl_result (f_Mdl_load (f_Mdl_find T (31 : Int32)).2 (f_Mdl_is T (32 : Int32))).2 (f_Mdl_load (f_Mdl_find T (31 : Int32)).2 (f_Mdl_is T (32 : Int32))).1 (f_Mdl_is T (32 : Int32))).2 (f_Mdl_result (f_Mdl_load (f_Mdl_find T (31 : Int32)).2 (f_Mdl_is T (32 : Int32))).2 (f_Mdl_load (f_Mdl_find T (31 : Int32)).2 (f_Mdl_is T (32 : Int32))).1 (f_Mdl_is T (32 : Int32))).1)) := by
  have e : f_Mdl_arithmetic T (191 : Int32) = if (f_Mdl_find T (31 : Int32)).1 = (0 : Int32) then (((0 : Int32), (f_Mdl_find T (31 : Int32)).2)) else (((1 : Int32), (f_Mdl_setAccumulator (f_Mdl_result (f_Mdl_load (f_Mdl_find T (31 : Int32)).2 (f_Mdl_is T (32 : Int32))).2 (f_Mdl_load (f_Mdl_find T (31 : Int32)).2 (f_Mdl_is T (32 : Int32))).1 (f_Mdl_is T (32 : Int32))).2 (f_Mdl_result (f_Mdl_load (f_Mdl_find T (31 : Int32)).2 (f_Mdl_is T (32 : Int32))).2 (f_Mdl_load (f_Mdl_find T (31 : Int32)).2 (f_Mdl_is T (32 : Int32))).1 (f_Mdl_is T (32 : Int32))).1))) := rfl
  rw [e, fd1_31, if_neg (by decide : ¬ (1 : Int32) = 0)]
theorem o_BF {S T : Sc} (h : RR S T) : KO (f_Prc_useAccumulator S (191 : Int32)) (f_Mdl_arithmetic T (191 : Int32)) := by
  rw [ec_BF, em_BF]
  obtain ⟨f1, f2, f3, f4⟩ := sp_31 h
  obtain ⟨l1, l2, l3⟩ := s_load f2 f3 (WN_A h)
  have lf := (fr_rv (S := (f_Opd_place S 31).2) (c := (f_Opd_place S 31).1) (WN_A h)).trans f4
  have hw := WN_fr h lf
  exact ⟨rfl, rfl, s_setA2 l3 hw l1⟩
theorem ec_C0 (S : Sc) : f_Prc_useIndex S (192 : Int32) = ((1 : Int32), (f_Prc_compare (f_Opd_nextValue S (f_Reg_wideIndex S)).2 (S.1 2) (f_Opd_nextValue S (f_Reg_wideIndex S)).1 (f_Reg_wideIndex S))) := rfl
theorem em_C0 (T : Sc) : f_Mdl_index T (192 : Int32) = ((1 : Int32), (f_Mdl_compare (f_Mdl_immediate T (f_Mdl_is T (16 : Int32))).2 (T.1 2) (f_Mdl_immediate T (f_Mdl_is T (16 : Int32))).1 (f_Mdl_is T (16 : Int32)))) := rfl
theorem o_C0 {S T : Sc} (h : RR S T) : KO (f_Prc_useIndex S (192 : Int32)) (f_Mdl_index T (192 : Int32)) := by
  rw [ec_C0, em_C0]
  obtain ⟨l1, l2, l3⟩ := s_nv h (WN_I h)
  exact ⟨rfl, rfl, s_cmp2 l3 (WN_I h) (RRe_2 h) l1⟩
theorem ec_C1 (S : Sc) : f_Prc_useAccumulator S (193 : Int32) = ((1 : Int32), (f_Prc_compare (f_Bus_readValue (f_Opd_place S (1 : Int32)).2 (f_Opd_place S (1 : Int32)).1 (f_Reg_wideA S)).2 (f_Reg_a (f_Bus_readValue (f_Opd_place S (1 : Int32)).2 (f_Opd_place S (1 : Int32)).1 (f_Reg_wideA S)).2) (f_Bus_readValue (f_Opd_place S (1 : Int32)).2 (f_Opd_place S (1 : Int32)).1 (f_Reg_wideA S)).1 (f_Reg_wideA S))) := rfl
theorem em_C1 (T : Sc) : f_Mdl_arithmetic T (193 : Int32) = ((1 : Int32), (f_Mdl_compare (f_Mdl_load (f_Mdl_find T (1 : Int32)).2 (f_Mdl_is T (32 : Int32))).2 (f_Mdl_accumulator (f_Mdl_load (f_Mdl_find T (1 : Int32)).2 (f_Mdl_is T (32 : Int32))).2) (f_Mdl_load (f_Mdl_find T (1 : Int32)).2 (f_Mdl_is T (32 : Int32))).1 (f_Mdl_is T (32 : Int32)))) := by
  have e : f_Mdl_arithmetic T (193 : Int32) = if (f_Mdl_find T (1 : Int32)).1 = (0 : Int32) then (((0 : Int32), (f_Mdl_find T (1 : Int32)).2)) else (((1 : Int32), (f_Mdl_compare (f_Mdl_load (f_Mdl_find T (1 : Int32)).2 (f_Mdl_is T (32 : Int32))).2 (f_Mdl_accumulator (f_Mdl_load (f_Mdl_find T (1 : Int32)).2 (f_Mdl_is T (32 : Int32))).2) (f_Mdl_load (f_Mdl_find T (1 : Int32)).2 (f_Mdl_is T (32 : Int32))).1 (f_Mdl_is T (32 : Int32))))) := rfl
  rw [e, fd1_1, if_neg (by decide : ¬ (1 : Int32) = 0)]
theorem o_C1 {S T : Sc} (h : RR S T) : KO (f_Prc_useAccumulator S (193 : Int32)) (f_Mdl_arithmetic T (193 : Int32)) := by
  rw [ec_C1, em_C1]
  obtain ⟨f1, f2, f3, f4⟩ := sp_1 h
  obtain ⟨l1, l2, l3⟩ := s_load f2 f3 (WN_A h)
  have lf := (fr_rv (S := (f_Opd_place S 1).2) (c := (f_Opd_place S 1).1) (WN_A h)).trans f4
  have hw := WN_fr h lf
  exact ⟨rfl, rfl, s_cmp2 l3 (WN_A h) (acc_eq l3) l1⟩
theorem ec_C2 (S : Sc) : f_Prc_changeFlags S (194 : Int32) = ((1 : Int32), (f_Reg_replaceP (f_Opd_nextByte S).2 ((S.1 8) &&& ((f_Opd_nextByte S).1 ^^^ (-1 : Int32))))) := rfl
theorem em_C2 (T : Sc) : f_Mdl_other T (194 : Int32) = ((1 : Int32), (f_Mdl_setFlags (f_Mdl_next T).2 ((T.1 6) &&& ((f_Mdl_next T).1 ^^^ (-1 : Int32))))) := rfl
theorem o_C2 {S T : Sc} (h : RR S T) : KO (f_Prc_changeFlags S (194 : Int32)) (f_Mdl_other T (194 : Int32)) := by
  rw [ec_C2, em_C2]
  obtain ⟨a1, a2, a3⟩ := s_next h
  exact ⟨rfl, rfl, s_setP a3 (by rw [← a1, ← RRe_8 h]; exact (r8_and (RRr_8 h) _).symm)⟩
theorem ec_C3 (S : Sc) : f_Prc_useAccumulator S (195 : Int32) = ((1 : Int32), (f_Prc_compare (f_Bus_readValue (f_Opd_place S (3 : Int32)).2 (f_Opd_place S (3 : Int32)).1 (f_Reg_wideA S)).2 (f_Reg_a (f_Bus_readValue (f_Opd_place S (3 : Int32)).2 (f_Opd_place S (3 : Int32)).1 (f_Reg_wideA S)).2) (f_Bus_readValue (f_Opd_place S (3 : Int32)).2 (f_Opd_place S (3 : Int32)).1 (f_Reg_wideA S)).1 (f_Reg_wideA S))) := rfl
theorem em_C3 (T : Sc) : f_Mdl_arithmetic T (195 : Int32) = ((1 : Int32), (f_Mdl_compare (f_Mdl_load (f_Mdl_find T (3 : Int32)).2 (f_Mdl_is T (32 : Int32))).2 (f_Mdl_accumulator (f_Mdl_load (f_Mdl_find T (3 : Int32)).2 (f_Mdl_is T (32 : Int32))).2) (f_Mdl_load (f_Mdl_find T (3 : Int32)).2 (f_Mdl_is T (32 : Int32))).1 (f_Mdl_is T (32 : Int32)))) := by
  have e : f_Mdl_arithmetic T (195 : Int32) = if (f_Mdl_find T (3 : Int32)).1 = (0 : Int32) then (((0 : Int32), (f_Mdl_find T (3 : Int32)).2)) else (((1 : Int32), (f_Mdl_compare (f_Mdl_load (f_Mdl_find T (3 : Int32)).2 (f_Mdl_is T (32 : Int32))).2 (f_Mdl_accumulator (f_Mdl_load (f_Mdl_find T (3 : Int32)).2 (f_Mdl_is T (32 : Int32))).2) (f_Mdl_load (f_Mdl_find T (3 : Int32)).2 (f_Mdl_is T (32 : Int32))).1 (f_Mdl_is T (32 : Int32))))) := rfl
  rw [e, fd1_3, if_neg (by decide : ¬ (1 : Int32) = 0)]
theorem o_C3 {S T : Sc} (h : RR S T) : KO (f_Prc_useAccumulator S (195 : Int32)) (f_Mdl_arithmetic T (195 : Int32)) := by
  rw [ec_C3, em_C3]
  obtain ⟨f1, f2, f3, f4⟩ := sp_3 h
  obtain ⟨l1, l2, l3⟩ := s_load f2 f3 (WN_A h)
  have lf := (fr_rv (S := (f_Opd_place S 3).2) (c := (f_Opd_place S 3).1) (WN_A h)).trans f4
  have hw := WN_fr h lf
  exact ⟨rfl, rfl, s_cmp2 l3 (WN_A h) (acc_eq l3) l1⟩
theorem ec_C5 (S : Sc) : f_Prc_useAccumulator S (197 : Int32) = ((1 : Int32), (f_Prc_compare (f_Bus_readValue (f_Opd_place S (5 : Int32)).2 (f_Opd_place S (5 : Int32)).1 (f_Reg_wideA S)).2 (f_Reg_a (f_Bus_readValue (f_Opd_place S (5 : Int32)).2 (f_Opd_place S (5 : Int32)).1 (f_Reg_wideA S)).2) (f_Bus_readValue (f_Opd_place S (5 : Int32)).2 (f_Opd_place S (5 : Int32)).1 (f_Reg_wideA S)).1 (f_Reg_wideA S))) := rfl
theorem em_C5 (T : Sc) : f_Mdl_arithmetic T (197 : Int32) = ((1 : Int32), (f_Mdl_compare (f_Mdl_load (f_Mdl_find T (5 : Int32)).2 (f_Mdl_is T (32 : Int32))).2 (f_Mdl_accumulator (f_Mdl_load (f_Mdl_find T (5 : Int32)).2 (f_Mdl_is T (32 : Int32))).2) (f_Mdl_load (f_Mdl_find T (5 : Int32)).2 (f_Mdl_is T (32 : Int32))).1 (f_Mdl_is T (32 : Int32)))) := by
  have e : f_Mdl_arithmetic T (197 : Int32) = if (f_Mdl_find T (5 : Int32)).1 = (0 : Int32) then (((0 : Int32), (f_Mdl_find T (5 : Int32)).2)) else (((1 : Int32), (f_Mdl_compare (f_Mdl_load (f_Mdl_find T (5 : Int32)).2 (f_Mdl_is T (32 : Int32))).2 (f_Mdl_accumulator (f_Mdl_load (f_Mdl_find T (5 : Int32)).2 (f_Mdl_is T (32 : Int32))).2) (f_Mdl_load (f_Mdl_find T (5 : Int32)).2 (f_Mdl_is T (32 : Int32))).1 (f_Mdl_is T (32 : Int32))))) := rfl
  rw [e, fd1_5, if_neg (by decide : ¬ (1 : Int32) = 0)]
theorem o_C5 {S T : Sc} (h : RR S T) : KO (f_Prc_useAccumulator S (197 : Int32)) (f_Mdl_arithmetic T (197 : Int32)) := by
  rw [ec_C5, em_C5]
  obtain ⟨f1, f2, f3, f4⟩ := sp_5 h
  obtain ⟨l1, l2, l3⟩ := s_load f2 f3 (WN_A h)
  have lf := (fr_rv (S := (f_Opd_place S 5).2) (c := (f_Opd_place S 5).1) (WN_A h)).trans f4
  have hw := WN_fr h lf
  exact ⟨rfl, rfl, s_cmp2 l3 (WN_A h) (acc_eq l3) l1⟩
theorem ec_C6 (S : Sc) : f_Prc_changeMemory S (198 : Int32) = ((1 : Int32), (f_Bus_writeValue (f_Reg_showResult (f_Prc_changed (f_Bus_readValue (f_Opd_place S (5 : Int32)).2 (f_Opd_place S (5 : Int32)).1 (f_Reg_wideA S)).2 (6 : Int32) (f_Bus_readValue (f_Opd_place S (5 : Int32)).2 (f_Opd_place S (5 : Int32)).1 (f_Reg_wideA S)).1 (f_Reg_wideA S)).2 (f_Prc_changed (f_Bus_readValue (f_Opd_place S (5 : Int32)).2 (f_Opd_place S (5 : Int32)).1 (f_Reg_wideA S)).2 (6 : Int32) (f_Bus_readValue (f_Opd_place S (5 : Int32)).2 (f_Opd_place S (5 : Int32)).1 (f_Reg_wideA S)).1 (f_Reg_wideA S)).1 (f_Reg_wideA S)) (f_Opd_place S (5 : Int32)).1 (f_Prc_changed (f_Bus_readValue (f_Opd_place S (5 : Int32)).2 (f_Opd_place S (5 : Int32)).1 (f_Reg_wideA S)).2 (6 : Int32) (f_Bus_readValue (f_Opd_place S (5 : Int32)).2 (f_Opd_place S (5 : Int32)).1 (f_Reg_wideA S)).1 (f_Reg_wideA S)).1 (f_Reg_wideA S))) := rfl
theorem em_C6 (T : Sc) : f_Mdl_change T (198 : Int32) = ((1 : Int32), (f_Mdl_changeMemory T (1 : Int32) (0 : Int32))) := rfl
theorem o_C6 {S T : Sc} (h : RR S T) : KO (f_Prc_changeMemory S (198 : Int32)) (f_Mdl_change T (198 : Int32)) := by
  rw [ec_C6, em_C6]
  exact ⟨rfl, rfl, s_cm h 5 0 (Or.inl ⟨rfl, rfl⟩) (cm0 T 1) (fun {S T : Sc} {v w n : Int32} => sc_6)⟩
theorem ec_C7 (S : Sc) : f_Prc_useAccumulator S (199 : Int32) = ((1 : Int32), (f_Prc_compare (f_Bus_readValue (f_Opd_place S (7 : Int32)).2 (f_Opd_place S (7 : Int32)).1 (f_Reg_wideA S)).2 (f_Reg_a (f_Bus_readValue (f_Opd_place S (7 : Int32)).2 (f_Opd_place S (7 : Int32)).1 (f_Reg_wideA S)).2) (f_Bus_readValue (f_Opd_place S (7 : Int32)).2 (f_Opd_place S (7 : Int32)).1 (f_Reg_wideA S)).1 (f_Reg_wideA S))) := rfl
theorem em_C7 (T : Sc) : f_Mdl_arithmetic T (199 : Int32) = ((1 : Int32), (f_Mdl_compare (f_Mdl_load (f_Mdl_find T (7 : Int32)).2 (f_Mdl_is T (32 : Int32))).2 (f_Mdl_accumulator (f_Mdl_load (f_Mdl_find T (7 : Int32)).2 (f_Mdl_is T (32 : Int32))).2) (f_Mdl_load (f_Mdl_find T (7 : Int32)).2 (f_Mdl_is T (32 : Int32))).1 (f_Mdl_is T (32 : Int32)))) := by
  have e : f_Mdl_arithmetic T (199 : Int32) = if (f_Mdl_find T (7 : Int32)).1 = (0 : Int32) then (((0 : Int32), (f_Mdl_find T (7 : Int32)).2)) else (((1 : Int32), (f_Mdl_compare (f_Mdl_load (f_Mdl_find T (7 : Int32)).2 (f_Mdl_is T (32 : Int32))).2 (f_Mdl_accumulator (f_Mdl_load (f_Mdl_find T (7 : Int32)).2 (f_Mdl_is T (32 : Int32))).2) (f_Mdl_load (f_Mdl_find T (7 : Int32)).2 (f_Mdl_is T (32 : Int32))).1 (f_Mdl_is T (32 : Int32))))) := rfl
  rw [e, fd1_7, if_neg (by decide : ¬ (1 : Int32) = 0)]
theorem o_C7 {S T : Sc} (h : RR S T) : KO (f_Prc_useAccumulator S (199 : Int32)) (f_Mdl_arithmetic T (199 : Int32)) := by
  rw [ec_C7, em_C7]
  obtain ⟨f1, f2, f3, f4⟩ := sp_7 h
  obtain ⟨l1, l2, l3⟩ := s_load f2 f3 (WN_A h)
  have lf := (fr_rv (S := (f_Opd_place S 7).2) (c := (f_Opd_place S 7).1) (WN_A h)).trans f4
  have hw := WN_fr h lf
  exact ⟨rfl, rfl, s_cmp2 l3 (WN_A h) (acc_eq l3) l1⟩
theorem ec_C8 (S : Sc) : f_Prc_changeRegister S (200 : Int32) = ((1 : Int32), (f_Reg_loadY S ((S.1 2) + (1 : Int32)))) := rfl
theorem em_C8 (T : Sc) : f_Mdl_index T (200 : Int32) = ((1 : Int32), (pr (f_Mdl_result T ((T.1 2) + (1 : Int32)) (f_Mdl_is T (16 : Int32))).2 2 ((f_Mdl_result T ((T.1 2) + (1 : Int32)) (f_Mdl_is T (16 : Int32))).1))) := rfl
theorem o_C8 {S T : Sc} (h : RR S T) : KO (f_Prc_changeRegister S (200 : Int32)) (f_Mdl_index T (200 : Int32)) := by
  rw [ec_C8, em_C8]
  exact ⟨rfl, rfl, s_loadY2 h (WN_I h) (by rw [RRe_2 h])⟩
theorem ec_C9 (S : Sc) : f_Prc_useAccumulator S (201 : Int32) = ((1 : Int32), (f_Prc_compare (f_Opd_nextValue S (f_Reg_wideA S)).2 (f_Reg_a (f_Opd_nextValue S (f_Reg_wideA S)).2) (f_Opd_nextValue S (f_Reg_wideA S)).1 (f_Reg_wideA S))) := rfl
theorem em_C9 (T : Sc) : f_Mdl_arithmetic T (201 : Int32) = ((1 : Int32), (f_Mdl_compare (f_Mdl_immediate T (f_Mdl_is T (32 : Int32))).2 (f_Mdl_accumulator (f_Mdl_immediate T (f_Mdl_is T (32 : Int32))).2) (f_Mdl_immediate T (f_Mdl_is T (32 : Int32))).1 (f_Mdl_is T (32 : Int32)))) := rfl
theorem o_C9 {S T : Sc} (h : RR S T) : KO (f_Prc_useAccumulator S (201 : Int32)) (f_Mdl_arithmetic T (201 : Int32)) := by
  rw [ec_C9, em_C9]
  obtain ⟨l1, l2, l3⟩ := s_nv h (WN_A h)
  have lf := fr_nv (S := S) (WN_A h)
  have hw := WN_fr h lf
  exact ⟨rfl, rfl, s_cmp2 l3 (WN_A h) (acc_eq l3) l1⟩
theorem ec_CA (S : Sc) : f_Prc_changeRegister S (202 : Int32) = ((1 : Int32), (f_Reg_loadX S ((S.1 1) - (1 : Int32)))) := rfl
theorem em_CA (T : Sc) : f_Mdl_index T (202 : Int32) = ((1 : Int32), (pr (f_Mdl_result T ((T.1 1) - (1 : Int32)) (f_Mdl_is T (16 : Int32))).2 1 ((f_Mdl_result T ((T.1 1) - (1 : Int32)) (f_Mdl_is T (16 : Int32))).1))) := rfl
theorem o_CA {S T : Sc} (h : RR S T) : KO (f_Prc_changeRegister S (202 : Int32)) (f_Mdl_index T (202 : Int32)) := by
  rw [ec_CA, em_CA]
  exact ⟨rfl, rfl, s_loadX2 h (WN_I h) (by rw [RRe_1 h])⟩
theorem ec_CD (S : Sc) : f_Prc_useAccumulator S (205 : Int32) = ((1 : Int32), (f_Prc_compare (f_Bus_readValue (f_Opd_place S (13 : Int32)).2 (f_Opd_place S (13 : Int32)).1 (f_Reg_wideA S)).2 (f_Reg_a (f_Bus_readValue (f_Opd_place S (13 : Int32)).2 (f_Opd_place S (13 : Int32)).1 (f_Reg_wideA S)).2) (f_Bus_readValue (f_Opd_place S (13 : Int32)).2 (f_Opd_place S (13 : Int32)).1 (f_Reg_wideA S)).1 (f_Reg_wideA S))) := rfl
theorem em_CD (T : Sc) : f_Mdl_arithmetic T (205 : Int32) = ((1 : Int32), (f_Mdl_compare (f_Mdl_load (f_Mdl_find T (13 : Int32)).2 (f_Mdl_is T (32 : Int32))).2 (f_Mdl_accumulator (f_Mdl_load (f_Mdl_find T (13 : Int32)).2 (f_Mdl_is T (32 : Int32))).2) (f_Mdl_load (f_Mdl_find T (13 : Int32)).2 (f_Mdl_is T (32 : Int32))).1 (f_Mdl_is T (32 : Int32)))) := by
  have e : f_Mdl_arithmetic T (205 : Int32) = if (f_Mdl_find T (13 : Int32)).1 = (0 : Int32) then (((0 : Int32), (f_Mdl_find T (13 : Int32)).2)) else (((1 : Int32), (f_Mdl_compare (f_Mdl_load (f_Mdl_find T (13 : Int32)).2 (f_Mdl_is T (32 : Int32))).2 (f_Mdl_accumulator (f_Mdl_load (f_Mdl_find T (13 : Int32)).2 (f_Mdl_is T (32 : Int32))).2) (f_Mdl_load (f_Mdl_find T (13 : Int32)).2 (f_Mdl_is T (32 : Int32))).1 (f_Mdl_is T (32 : Int32))))) := rfl
  rw [e, fd1_13, if_neg (by decide : ¬ (1 : Int32) = 0)]
theorem o_CD {S T : Sc} (h : RR S T) : KO (f_Prc_useAccumulator S (205 : Int32)) (f_Mdl_arithmetic T (205 : Int32)) := by
  rw [ec_CD, em_CD]
  obtain ⟨f1, f2, f3, f4⟩ := sp_13 h
  obtain ⟨l1, l2, l3⟩ := s_load f2 f3 (WN_A h)
  have lf := (fr_rv (S := (f_Opd_place S 13).2) (c := (f_Opd_place S 13).1) (WN_A h)).trans f4
  have hw := WN_fr h lf
  exact ⟨rfl, rfl, s_cmp2 l3 (WN_A h) (acc_eq l3) l1⟩
theorem ec_CE (S : Sc) : f_Prc_changeMemory S (206 : Int32) = ((1 : Int32), (f_Bus_writeValue (f_Reg_showResult (f_Prc_changed (f_Bus_readValue (f_Opd_place S (13 : Int32)).2 (f_Opd_place S (13 : Int32)).1 (f_Reg_wideA S)).2 (6 : Int32) (f_Bus_readValue (f_Opd_place S (13 : Int32)).2 (f_Opd_place S (13 : Int32)).1 (f_Reg_wideA S)).1 (f_Reg_wideA S)).2 (f_Prc_changed (f_Bus_readValue (f_Opd_place S (13 : Int32)).2 (f_Opd_place S (13 : Int32)).1 (f_Reg_wideA S)).2 (6 : Int32) (f_Bus_readValue (f_Opd_place S (13 : Int32)).2 (f_Opd_place S (13 : Int32)).1 (f_Reg_wideA S)).1 (f_Reg_wideA S)).1 (f_Reg_wideA S)) (f_Opd_place S (13 : Int32)).1 (f_Prc_changed (f_Bus_readValue (f_Opd_place S (13 : Int32)).2 (f_Opd_place S (13 : Int32)).1 (f_Reg_wideA S)).2 (6 : Int32) (f_Bus_readValue (f_Opd_place S (13 : Int32)).2 (f_Opd_place S (13 : Int32)).1 (f_Reg_wideA S)).1 (f_Reg_wideA S)).1 (f_Reg_wideA S))) := rfl
theorem em_CE (T : Sc) : f_Mdl_change T (206 : Int32) = ((1 : Int32), (f_Mdl_changeMemory T (1 : Int32) (1 : Int32))) := rfl
theorem o_CE {S T : Sc} (h : RR S T) : KO (f_Prc_changeMemory S (206 : Int32)) (f_Mdl_change T (206 : Int32)) := by
  rw [ec_CE, em_CE]
  exact ⟨rfl, rfl, s_cm h 13 1 (Or.inr ⟨rfl, rfl⟩) (cm1 T 1) (fun {S T : Sc} {v w n : Int32} => sc_6)⟩
theorem ec_CF (S : Sc) : f_Prc_useAccumulator S (207 : Int32) = ((1 : Int32), (f_Prc_compare (f_Bus_readValue (f_Opd_place S (15 : Int32)).2 (f_Opd_place S (15 : Int32)).1 (f_Reg_wideA S)).2 (f_Reg_a (f_Bus_readValue (f_Opd_place S (15 : Int32)).2 (f_Opd_place S (15 : Int32)).1 (f_Reg_wideA S)).2) (f_Bus_readValue (f_Opd_place S (15 : Int32)).2 (f_Opd_place S (15 : Int32)).1 (f_Reg_wideA S)).1 (f_Reg_wideA S))) := rfl
theorem em_CF (T : Sc) : f_Mdl_arithmetic T (207 : Int32) = ((1 : Int32), (f_Mdl_compare (f_Mdl_load (f_Mdl_find T (15 : Int32)).2 (f_Mdl_is T (32 : Int32))).2 (f_Mdl_accumulator (f_Mdl_load (f_Mdl_find T (15 : Int32)).2 (f_Mdl_is T (32 : Int32))).2) (f_Mdl_load (f_Mdl_find T (15 : Int32)).2 (f_Mdl_is T (32 : Int32))).1 (f_Mdl_is T (32 : Int32)))) := by
  have e : f_Mdl_arithmetic T (207 : Int32) = if (f_Mdl_find T (15 : Int32)).1 = (0 : Int32) then (((0 : Int32), (f_Mdl_find T (15 : Int32)).2)) else (((1 : Int32), (f_Mdl_compare (f_Mdl_load (f_Mdl_find T (15 : Int32)).2 (f_Mdl_is T (32 : Int32))).2 (f_Mdl_accumulator (f_Mdl_load (f_Mdl_find T (15 : Int32)).2 (f_Mdl_is T (32 : Int32))).2) (f_Mdl_load (f_Mdl_find T (15 : Int32)).2 (f_Mdl_is T (32 : Int32))).1 (f_Mdl_is T (32 : Int32))))) := rfl
  rw [e, fd1_15, if_neg (by decide : ¬ (1 : Int32) = 0)]
theorem o_CF {S T : Sc} (h : RR S T) : KO (f_Prc_useAccumulator S (207 : Int32)) (f_Mdl_arithmetic T (207 : Int32)) := by
  rw [ec_CF, em_CF]
  obtain ⟨f1, f2, f3, f4⟩ := sp_15 h
  obtain ⟨l1, l2, l3⟩ := s_load f2 f3 (WN_A h)
  have lf := (fr_rv (S := (f_Opd_place S 15).2) (c := (f_Opd_place S 15).1) (WN_A h)).trans f4
  have hw := WN_fr h lf
  exact ⟨rfl, rfl, s_cmp2 l3 (WN_A h) (acc_eq l3) l1⟩
theorem ec_D0 (S : Sc) : f_Prc_branch S (208 : Int32) = if (f_Reg_has (f_Opd_nextByte S).2 (bf ((3 : Int32)).toNatClampNeg)) = (0 : Int32) then (((1 : Int32), (f_Reg_jumpTo (f_Opd_nextByte S).2 (((f_Opd_nextByte S).2.1 7) + (((f_Opd_nextByte S).1).toInt8.toInt32))))) else (((1 : Int32), (f_Opd_nextByte S).2)) := rfl
theorem em_D0 (T : Sc) : f_Mdl_jump T (208 : Int32) = if (f_Mdl_is T (2 : Int32)) = (0 : Int32) then (((1 : Int32), (f_Mdl_branch T (1 : Int32)))) else (((1 : Int32), (f_Mdl_branch T (0 : Int32)))) := rfl
theorem o_D0 {S T : Sc} (h : RR S T) : KO (f_Prc_branch S (208 : Int32)) (f_Mdl_jump T (208 : Int32)) := by
  rw [ec_D0, em_D0]
  have e : f_Reg_has (f_Opd_nextByte S).2 (2 : Int32) = f_Mdl_is T (2 : Int32) := has_n h (2 : Int32)
  have eb : bf (3 : Int32).toNatClampNeg = (2 : Int32) := rfl
  rw [eb, e]
  by_cases z : f_Mdl_is T (2 : Int32) = (0 : Int32)
  · rw [if_pos z, if_pos z]; exact ⟨rfl, rfl, (s_br (x := 1) h).1 (by decide)⟩
  · rw [if_neg z, if_neg z]; exact ⟨rfl, rfl, (s_br (x := 0) h).2 rfl⟩
theorem ec_D1 (S : Sc) : f_Prc_useAccumulator S (209 : Int32) = ((1 : Int32), (f_Prc_compare (f_Bus_readValue (f_Opd_place S (17 : Int32)).2 (f_Opd_place S (17 : Int32)).1 (f_Reg_wideA S)).2 (f_Reg_a (f_Bus_readValue (f_Opd_place S (17 : Int32)).2 (f_Opd_place S (17 : Int32)).1 (f_Reg_wideA S)).2) (f_Bus_readValue (f_Opd_place S (17 : Int32)).2 (f_Opd_place S (17 : Int32)).1 (f_Reg_wideA S)).1 (f_Reg_wideA S))) := rfl
theorem em_D1 (T : Sc) : f_Mdl_arithmetic T (209 : Int32) = ((1 : Int32), (f_Mdl_compare (f_Mdl_load (f_Mdl_find T (17 : Int32)).2 (f_Mdl_is T (32 : Int32))).2 (f_Mdl_accumulator (f_Mdl_load (f_Mdl_find T (17 : Int32)).2 (f_Mdl_is T (32 : Int32))).2) (f_Mdl_load (f_Mdl_find T (17 : Int32)).2 (f_Mdl_is T (32 : Int32))).1 (f_Mdl_is T (32 : Int32)))) := by
  have e : f_Mdl_arithmetic T (209 : Int32) = if (f_Mdl_find T (17 : Int32)).1 = (0 : Int32) then (((0 : Int32), (f_Mdl_find T (17 : Int32)).2)) else (((1 : Int32), (f_Mdl_compare (f_Mdl_load (f_Mdl_find T (17 : Int32)).2 (f_Mdl_is T (32 : Int32))).2 (f_Mdl_accumulator (f_Mdl_load (f_Mdl_find T (17 : Int32)).2 (f_Mdl_is T (32 : Int32))).2) (f_Mdl_load (f_Mdl_find T (17 : Int32)).2 (f_Mdl_is T (32 : Int32))).1 (f_Mdl_is T (32 : Int32))))) := rfl
  rw [e, fd1_17, if_neg (by decide : ¬ (1 : Int32) = 0)]
theorem o_D1 {S T : Sc} (h : RR S T) : KO (f_Prc_useAccumulator S (209 : Int32)) (f_Mdl_arithmetic T (209 : Int32)) := by
  rw [ec_D1, em_D1]
  obtain ⟨f1, f2, f3, f4⟩ := sp_17 h
  obtain ⟨l1, l2, l3⟩ := s_load f2 f3 (WN_A h)
  have lf := (fr_rv (S := (f_Opd_place S 17).2) (c := (f_Opd_place S 17).1) (WN_A h)).trans f4
  have hw := WN_fr h lf
  exact ⟨rfl, rfl, s_cmp2 l3 (WN_A h) (acc_eq l3) l1⟩
theorem ec_D2 (S : Sc) : f_Prc_useAccumulator S (210 : Int32) = ((1 : Int32), (f_Prc_compare (f_Bus_readValue (f_Opd_place S (18 : Int32)).2 (f_Opd_place S (18 : Int32)).1 (f_Reg_wideA S)).2 (f_Reg_a (f_Bus_readValue (f_Opd_place S (18 : Int32)).2 (f_Opd_place S (18 : Int32)).1 (f_Reg_wideA S)).2) (f_Bus_readValue (f_Opd_place S (18 : Int32)).2 (f_Opd_place S (18 : Int32)).1 (f_Reg_wideA S)).1 (f_Reg_wideA S))) := rfl
theorem em_D2 (T : Sc) : f_Mdl_arithmetic T (210 : Int32) = ((1 : Int32), (f_Mdl_compare (f_Mdl_load (f_Mdl_find T (18 : Int32)).2 (f_Mdl_is T (32 : Int32))).2 (f_Mdl_accumulator (f_Mdl_load (f_Mdl_find T (18 : Int32)).2 (f_Mdl_is T (32 : Int32))).2) (f_Mdl_load (f_Mdl_find T (18 : Int32)).2 (f_Mdl_is T (32 : Int32))).1 (f_Mdl_is T (32 : Int32)))) := by
  have e : f_Mdl_arithmetic T (210 : Int32) = if (f_Mdl_find T (18 : Int32)).1 = (0 : Int32) then (((0 : Int32), (f_Mdl_find T (18 : Int32)).2)) else (((1 : Int32), (f_Mdl_compare (f_Mdl_load (f_Mdl_find T (18 : Int32)).2 (f_Mdl_is T (32 : Int32))).2 (f_Mdl_accumulator (f_Mdl_load (f_Mdl_find T (18 : Int32)).2 (f_Mdl_is T (32 : Int32))).2) (f_Mdl_load (f_Mdl_find T (18 : Int32)).2 (f_Mdl_is T (32 : Int32))).1 (f_Mdl_is T (32 : Int32))))) := rfl
  rw [e, fd1_18, if_neg (by decide : ¬ (1 : Int32) = 0)]
theorem o_D2 {S T : Sc} (h : RR S T) : KO (f_Prc_useAccumulator S (210 : Int32)) (f_Mdl_arithmetic T (210 : Int32)) := by
  rw [ec_D2, em_D2]
  obtain ⟨f1, f2, f3, f4⟩ := sp_18 h
  obtain ⟨l1, l2, l3⟩ := s_load f2 f3 (WN_A h)
  have lf := (fr_rv (S := (f_Opd_place S 18).2) (c := (f_Opd_place S 18).1) (WN_A h)).trans f4
  have hw := WN_fr h lf
  exact ⟨rfl, rfl, s_cmp2 l3 (WN_A h) (acc_eq l3) l1⟩
theorem ec_D3 (S : Sc) : f_Prc_useAccumulator S (211 : Int32) = ((1 : Int32), (f_Prc_compare (f_Bus_readValue (f_Opd_place S (19 : Int32)).2 (f_Opd_place S (19 : Int32)).1 (f_Reg_wideA S)).2 (f_Reg_a (f_Bus_readValue (f_Opd_place S (19 : Int32)).2 (f_Opd_place S (19 : Int32)).1 (f_Reg_wideA S)).2) (f_Bus_readValue (f_Opd_place S (19 : Int32)).2 (f_Opd_place S (19 : Int32)).1 (f_Reg_wideA S)).1 (f_Reg_wideA S))) := rfl
theorem em_D3 (T : Sc) : f_Mdl_arithmetic T (211 : Int32) = ((1 : Int32), (f_Mdl_compare (f_Mdl_load (f_Mdl_find T (19 : Int32)).2 (f_Mdl_is T (32 : Int32))).2 (f_Mdl_accumulator (f_Mdl_load (f_Mdl_find T (19 : Int32)).2 (f_Mdl_is T (32 : Int32))).2) (f_Mdl_load (f_Mdl_find T (19 : Int32)).2 (f_Mdl_is T (32 : Int32))).1 (f_Mdl_is T (32 : Int32)))) := by
  have e : f_Mdl_arithmetic T (211 : Int32) = if (f_Mdl_find T (19 : Int32)).1 = (0 : Int32) then (((0 : Int32), (f_Mdl_find T (19 : Int32)).2)) else (((1 : Int32), (f_Mdl_compare (f_Mdl_load (f_Mdl_find T (19 : Int32)).2 (f_Mdl_is T (32 : Int32))).2 (f_Mdl_accumulator (f_Mdl_load (f_Mdl_find T (19 : Int32)).2 (f_Mdl_is T (32 : Int32))).2) (f_Mdl_load (f_Mdl_find T (19 : Int32)).2 (f_Mdl_is T (32 : Int32))).1 (f_Mdl_is T (32 : Int32))))) := rfl
  rw [e, fd1_19, if_neg (by decide : ¬ (1 : Int32) = 0)]
theorem o_D3 {S T : Sc} (h : RR S T) : KO (f_Prc_useAccumulator S (211 : Int32)) (f_Mdl_arithmetic T (211 : Int32)) := by
  rw [ec_D3, em_D3]
  obtain ⟨f1, f2, f3, f4⟩ := sp_19 h
  obtain ⟨l1, l2, l3⟩ := s_load f2 f3 (WN_A h)
  have lf := (fr_rv (S := (f_Opd_place S 19).2) (c := (f_Opd_place S 19).1) (WN_A h)).trans f4
  have hw := WN_fr h lf
  exact ⟨rfl, rfl, s_cmp2 l3 (WN_A h) (acc_eq l3) l1⟩
theorem ec_D5 (S : Sc) : f_Prc_useAccumulator S (213 : Int32) = ((1 : Int32), (f_Prc_compare (f_Bus_readValue (f_Opd_place S (21 : Int32)).2 (f_Opd_place S (21 : Int32)).1 (f_Reg_wideA S)).2 (f_Reg_a (f_Bus_readValue (f_Opd_place S (21 : Int32)).2 (f_Opd_place S (21 : Int32)).1 (f_Reg_wideA S)).2) (f_Bus_readValue (f_Opd_place S (21 : Int32)).2 (f_Opd_place S (21 : Int32)).1 (f_Reg_wideA S)).1 (f_Reg_wideA S))) := rfl
theorem em_D5 (T : Sc) : f_Mdl_arithmetic T (213 : Int32) = ((1 : Int32), (f_Mdl_compare (f_Mdl_load (f_Mdl_find T (21 : Int32)).2 (f_Mdl_is T (32 : Int32))).2 (f_Mdl_accumulator (f_Mdl_load (f_Mdl_find T (21 : Int32)).2 (f_Mdl_is T (32 : Int32))).2) (f_Mdl_load (f_Mdl_find T (21 : Int32)).2 (f_Mdl_is T (32 : Int32))).1 (f_Mdl_is T (32 : Int32)))) := by
  have e : f_Mdl_arithmetic T (213 : Int32) = if (f_Mdl_find T (21 : Int32)).1 = (0 : Int32) then (((0 : Int32), (f_Mdl_find T (21 : Int32)).2)) else (((1 : Int32), (f_Mdl_compare (f_Mdl_load (f_Mdl_find T (21 : Int32)).2 (f_Mdl_is T (32 : Int32))).2 (f_Mdl_accumulator (f_Mdl_load (f_Mdl_find T (21 : Int32)).2 (f_Mdl_is T (32 : Int32))).2) (f_Mdl_load (f_Mdl_find T (21 : Int32)).2 (f_Mdl_is T (32 : Int32))).1 (f_Mdl_is T (32 : Int32))))) := rfl
  rw [e, fd1_21, if_neg (by decide : ¬ (1 : Int32) = 0)]
theorem o_D5 {S T : Sc} (h : RR S T) : KO (f_Prc_useAccumulator S (213 : Int32)) (f_Mdl_arithmetic T (213 : Int32)) := by
  rw [ec_D5, em_D5]
  obtain ⟨f1, f2, f3, f4⟩ := sp_21 h
  obtain ⟨l1, l2, l3⟩ := s_load f2 f3 (WN_A h)
  have lf := (fr_rv (S := (f_Opd_place S 21).2) (c := (f_Opd_place S 21).1) (WN_A h)).trans f4
  have hw := WN_fr h lf
  exact ⟨rfl, rfl, s_cmp2 l3 (WN_A h) (acc_eq l3) l1⟩
theorem ec_D7 (S : Sc) : f_Prc_useAccumulator S (215 : Int32) = ((1 : Int32), (f_Prc_compare (f_Bus_readValue (f_Opd_place S (23 : Int32)).2 (f_Opd_place S (23 : Int32)).1 (f_Reg_wideA S)).2 (f_Reg_a (f_Bus_readValue (f_Opd_place S (23 : Int32)).2 (f_Opd_place S (23 : Int32)).1 (f_Reg_wideA S)).2) (f_Bus_readValue (f_Opd_place S (23 : Int32)).2 (f_Opd_place S (23 : Int32)).1 (f_Reg_wideA S)).1 (f_Reg_wideA S))) := rfl
theorem em_D7 (T : Sc) : f_Mdl_arithmetic T (215 : Int32) = ((1 : Int32), (f_Mdl_compare (f_Mdl_load (f_Mdl_find T (23 : Int32)).2 (f_Mdl_is T (32 : Int32))).2 (f_Mdl_accumulator (f_Mdl_load (f_Mdl_find T (23 : Int32)).2 (f_Mdl_is T (32 : Int32))).2) (f_Mdl_load (f_Mdl_find T (23 : Int32)).2 (f_Mdl_is T (32 : Int32))).1 (f_Mdl_is T (32 : Int32)))) := by
  have e : f_Mdl_arithmetic T (215 : Int32) = if (f_Mdl_find T (23 : Int32)).1 = (0 : Int32) then (((0 : Int32), (f_Mdl_find T (23 : Int32)).2)) else (((1 : Int32), (f_Mdl_compare (f_Mdl_load (f_Mdl_find T (23 : Int32)).2 (f_Mdl_is T (32 : Int32))).2 (f_Mdl_accumulator (f_Mdl_load (f_Mdl_find T (23 : Int32)).2 (f_Mdl_is T (32 : Int32))).2) (f_Mdl_load (f_Mdl_find T (23 : Int32)).2 (f_Mdl_is T (32 : Int32))).1 (f_Mdl_is T (32 : Int32))))) := rfl
  rw [e, fd1_23, if_neg (by decide : ¬ (1 : Int32) = 0)]
theorem o_D7 {S T : Sc} (h : RR S T) : KO (f_Prc_useAccumulator S (215 : Int32)) (f_Mdl_arithmetic T (215 : Int32)) := by
  rw [ec_D7, em_D7]
  obtain ⟨f1, f2, f3, f4⟩ := sp_23 h
  obtain ⟨l1, l2, l3⟩ := s_load f2 f3 (WN_A h)
  have lf := (fr_rv (S := (f_Opd_place S 23).2) (c := (f_Opd_place S 23).1) (WN_A h)).trans f4
  have hw := WN_fr h lf
  exact ⟨rfl, rfl, s_cmp2 l3 (WN_A h) (acc_eq l3) l1⟩
theorem ec_D8 (S : Sc) : f_Prc_changeFlags S (216 : Int32) = ((1 : Int32), (f_Reg_putFlag S (8 : Int32) (0 : Int32))) := rfl
theorem em_D8 (T : Sc) : f_Mdl_other T (216 : Int32) = ((1 : Int32), (f_Mdl_flag T (8 : Int32) (0 : Int32))) := rfl
theorem o_D8 {S T : Sc} (h : RR S T) : KO (f_Prc_changeFlags S (216 : Int32)) (f_Mdl_other T (216 : Int32)) := by
  rw [ec_D8, em_D8]
  exact ⟨rfl, rfl, s_flag h 8 0 (by decide)⟩
theorem ec_D9 (S : Sc) : f_Prc_useAccumulator S (217 : Int32) = ((1 : Int32), (f_Prc_compare (f_Bus_readValue (f_Opd_place S (25 : Int32)).2 (f_Opd_place S (25 : Int32)).1 (f_Reg_wideA S)).2 (f_Reg_a (f_Bus_readValue (f_Opd_place S (25 : Int32)).2 (f_Opd_place S (25 : Int32)).1 (f_Reg_wideA S)).2) (f_Bus_readValue (f_Opd_place S (25 : Int32)).2 (f_Opd_place S (25 : Int32)).1 (f_Reg_wideA S)).1 (f_Reg_wideA S))) := rfl
theorem em_D9 (T : Sc) : f_Mdl_arithmetic T (217 : Int32) = ((1 : Int32), (f_Mdl_compare (f_Mdl_load (f_Mdl_find T (25 : Int32)).2 (f_Mdl_is T (32 : Int32))).2 (f_Mdl_accumulator (f_Mdl_load (f_Mdl_find T (25 : Int32)).2 (f_Mdl_is T (32 : Int32))).2) (f_Mdl_load (f_Mdl_find T (25 : Int32)).2 (f_Mdl_is T (32 : Int32))).1 (f_Mdl_is T (32 : Int32)))) := by
  have e : f_Mdl_arithmetic T (217 : Int32) = if (f_Mdl_find T (25 : Int32)).1 = (0 : Int32) then (((0 : Int32), (f_Mdl_find T (25 : Int32)).2)) else (((1 : Int32), (f_Mdl_compare (f_Mdl_load (f_Mdl_find T (25 : Int32)).2 (f_Mdl_is T (32 : Int32))).2 (f_Mdl_accumulator (f_Mdl_load (f_Mdl_find T (25 : Int32)).2 (f_Mdl_is T (32 : Int32))).2) (f_Mdl_load (f_Mdl_find T (25 : Int32)).2 (f_Mdl_is T (32 : Int32))).1 (f_Mdl_is T (32 : Int32))))) := rfl
  rw [e, fd1_25, if_neg (by decide : ¬ (1 : Int32) = 0)]
theorem o_D9 {S T : Sc} (h : RR S T) : KO (f_Prc_useAccumulator S (217 : Int32)) (f_Mdl_arithmetic T (217 : Int32)) := by
  rw [ec_D9, em_D9]
  obtain ⟨f1, f2, f3, f4⟩ := sp_25 h
  obtain ⟨l1, l2, l3⟩ := s_load f2 f3 (WN_A h)
  have lf := (fr_rv (S := (f_Opd_place S 25).2) (c := (f_Opd_place S 25).1) (WN_A h)).trans f4
  have hw := WN_fr h lf
  exact ⟨rfl, rfl, s_cmp2 l3 (WN_A h) (acc_eq l3) l1⟩
theorem ec_DA (S : Sc) : f_Prc_push S (218 : Int32) = ((1 : Int32), (f_Stk_pushValue S (S.1 1) (f_Reg_wideIndex S))) := rfl
theorem em_DA (T : Sc) : f_Mdl_stack T (218 : Int32) = ((1 : Int32), (f_Mdl_pushOf T (T.1 1) (f_Mdl_is T (16 : Int32)))) := rfl
theorem o_DA {S T : Sc} (h : RR S T) : KO (f_Prc_push S (218 : Int32)) (f_Mdl_stack T (218 : Int32)) := by
  rw [ec_DA, em_DA]
  exact ⟨rfl, rfl, s_pushV h (WN_I h) (fun _ => RRe_1 h) (by rw [RRe_1 h])⟩
theorem ec_DD (S : Sc) : f_Prc_useAccumulator S (221 : Int32) = ((1 : Int32), (f_Prc_compare (f_Bus_readValue (f_Opd_place S (29 : Int32)).2 (f_Opd_place S (29 : Int32)).1 (f_Reg_wideA S)).2 (f_Reg_a (f_Bus_readValue (f_Opd_place S (29 : Int32)).2 (f_Opd_place S (29 : Int32)).1 (f_Reg_wideA S)).2) (f_Bus_readValue (f_Opd_place S (29 : Int32)).2 (f_Opd_place S (29 : Int32)).1 (f_Reg_wideA S)).1 (f_Reg_wideA S))) := rfl
theorem em_DD (T : Sc) : f_Mdl_arithmetic T (221 : Int32) = ((1 : Int32), (f_Mdl_compare (f_Mdl_load (f_Mdl_find T (29 : Int32)).2 (f_Mdl_is T (32 : Int32))).2 (f_Mdl_accumulator (f_Mdl_load (f_Mdl_find T (29 : Int32)).2 (f_Mdl_is T (32 : Int32))).2) (f_Mdl_load (f_Mdl_find T (29 : Int32)).2 (f_Mdl_is T (32 : Int32))).1 (f_Mdl_is T (32 : Int32)))) := by
  have e : f_Mdl_arithmetic T (221 : Int32) = if (f_Mdl_find T (29 : Int32)).1 = (0 : Int32) then (((0 : Int32), (f_Mdl_find T (29 : Int32)).2)) else (((1 : Int32), (f_Mdl_compare (f_Mdl_load (f_Mdl_find T (29 : Int32)).2 (f_Mdl_is T (32 : Int32))).2 (f_Mdl_accumulator (f_Mdl_load (f_Mdl_find T (29 : Int32)).2 (f_Mdl_is T (32 : Int32))).2) (f_Mdl_load (f_Mdl_find T (29 : Int32)).2 (f_Mdl_is T (32 : Int32))).1 (f_Mdl_is T (32 : Int32))))) := rfl
  rw [e, fd1_29, if_neg (by decide : ¬ (1 : Int32) = 0)]
theorem o_DD {S T : Sc} (h : RR S T) : KO (f_Prc_useAccumulator S (221 : Int32)) (f_Mdl_arithmetic T (221 : Int32)) := by
  rw [ec_DD, em_DD]
  obtain ⟨f1, f2, f3, f4⟩ := sp_29 h
  obtain ⟨l1, l2, l3⟩ := s_load f2 f3 (WN_A h)
  have lf := (fr_rv (S := (f_Opd_place S 29).2) (c := (f_Opd_place S 29).1) (WN_A h)).trans f4
  have hw := WN_fr h lf
  exact ⟨rfl, rfl, s_cmp2 l3 (WN_A h) (acc_eq l3) l1⟩
theorem ec_DF (S : Sc) : f_Prc_useAccumulator S (223 : Int32) = ((1 : Int32), (f_Prc_compare (f_Bus_readValue (f_Opd_place S (31 : Int32)).2 (f_Opd_place S (31 : Int32)).1 (f_Reg_wideA S)).2 (f_Reg_a (f_Bus_readValue (f_Opd_place S (31 : Int32)).2 (f_Opd_place S (31 : Int32)).1 (f_Reg_wideA S)).2) (f_Bus_readValue (f_Opd_place S (31 : Int32)).2 (f_Opd_place S (31 : Int32)).1 (f_Reg_wideA S)).1 (f_Reg_wideA S))) := rfl
theorem em_DF (T : Sc) : f_Mdl_arithmetic T (223 : Int32) = ((1 : Int32), (f_Mdl_compare (f_Mdl_load (f_Mdl_find T (31 : Int32)).2 (f_Mdl_is T (32 : Int32))).2 (f_Mdl_accumulator (f_Mdl_load (f_Mdl_find T (31 : Int32)).2 (f_Mdl_is T (32 : Int32))).2) (f_Mdl_load (f_Mdl_find T (31 : Int32)).2 (f_Mdl_is T (32 : Int32))).1 (f_Mdl_is T (32 : Int32)))) := by
  have e : f_Mdl_arithmetic T (223 : Int32) = if (f_Mdl_find T (31 : Int32)).1 = (0 : Int32) then (((0 : Int32), (f_Mdl_find T (31 : Int32)).2)) else (((1 : Int32), (f_Mdl_compare (f_Mdl_load (f_Mdl_find T (31 : Int32)).2 (f_Mdl_is T (32 : Int32))).2 (f_Mdl_accumulator (f_Mdl_load (f_Mdl_find T (31 : Int32)).2 (f_Mdl_is T (32 : Int32))).2) (f_Mdl_load (f_Mdl_find T (31 : Int32)).2 (f_Mdl_is T (32 : Int32))).1 (f_Mdl_is T (32 : Int32))))) := rfl
  rw [e, fd1_31, if_neg (by decide : ¬ (1 : Int32) = 0)]
theorem o_DF {S T : Sc} (h : RR S T) : KO (f_Prc_useAccumulator S (223 : Int32)) (f_Mdl_arithmetic T (223 : Int32)) := by
  rw [ec_DF, em_DF]
  obtain ⟨f1, f2, f3, f4⟩ := sp_31 h
  obtain ⟨l1, l2, l3⟩ := s_load f2 f3 (WN_A h)
  have lf := (fr_rv (S := (f_Opd_place S 31).2) (c := (f_Opd_place S 31).1) (WN_A h)).trans f4
  have hw := WN_fr h lf
  exact ⟨rfl, rfl, s_cmp2 l3 (WN_A h) (acc_eq l3) l1⟩
theorem ec_E0 (S : Sc) : f_Prc_useIndex S (224 : Int32) = ((1 : Int32), (f_Prc_compare (f_Opd_nextValue S (f_Reg_wideIndex S)).2 (S.1 1) (f_Opd_nextValue S (f_Reg_wideIndex S)).1 (f_Reg_wideIndex S))) := rfl
theorem em_E0 (T : Sc) : f_Mdl_index T (224 : Int32) = ((1 : Int32), (f_Mdl_compare (f_Mdl_immediate T (f_Mdl_is T (16 : Int32))).2 (T.1 1) (f_Mdl_immediate T (f_Mdl_is T (16 : Int32))).1 (f_Mdl_is T (16 : Int32)))) := rfl
theorem o_E0 {S T : Sc} (h : RR S T) : KO (f_Prc_useIndex S (224 : Int32)) (f_Mdl_index T (224 : Int32)) := by
  rw [ec_E0, em_E0]
  obtain ⟨l1, l2, l3⟩ := s_nv h (WN_I h)
  exact ⟨rfl, rfl, s_cmp2 l3 (WN_I h) (RRe_1 h) l1⟩
theorem ec_E1 (S : Sc) : f_Prc_useAccumulator S (225 : Int32) = ((1 : Int32), (f_Prc_addToA (f_Bus_readValue (f_Opd_place S (1 : Int32)).2 (f_Opd_place S (1 : Int32)).1 (f_Reg_wideA S)).2 (((f_Bus_readValue (f_Opd_place S (1 : Int32)).2 (f_Opd_place S (1 : Int32)).1 (f_Reg_wideA S)).1 ^^^ (-1 : Int32)) &&& (f_Reg_maskOf (f_Reg_wideA S))))) := rfl
theorem em_E1 (T : Sc) : f_Mdl_arithmetic T (225 : Int32) = ((1 : Int32), (f_Mdl_add (f_Mdl_load (f_Mdl_find T (1 : Int32)).2 (f_Mdl_is T (32 : Int32))).2 (f_Mdl_cut ((f_Mdl_load (f_Mdl_find T (1 : Int32)).2 (f_Mdl_is T (32 : Int32))).1 ^^^ (-1 : Int32)) (f_Mdl_is T (32 : Int32))))) := by
  have e : f_Mdl_arithmetic T (225 : Int32) = if (f_Mdl_find T (1 : Int32)).1 = (0 : Int32) then (((0 : Int32), (f_Mdl_find T (1 : Int32)).2)) else (((1 : Int32), (f_Mdl_add (f_Mdl_load (f_Mdl_find T (1 : Int32)).2 (f_Mdl_is T (32 : Int32))).2 (f_Mdl_cut ((f_Mdl_load (f_Mdl_find T (1 : Int32)).2 (f_Mdl_is T (32 : Int32))).1 ^^^ (-1 : Int32)) (f_Mdl_is T (32 : Int32)))))) := rfl
  rw [e, fd1_1, if_neg (by decide : ¬ (1 : Int32) = 0)]
theorem o_E1 {S T : Sc} (h : RR S T) : KO (f_Prc_useAccumulator S (225 : Int32)) (f_Mdl_arithmetic T (225 : Int32)) := by
  rw [ec_E1, em_E1]
  obtain ⟨f1, f2, f3, f4⟩ := sp_1 h
  obtain ⟨l1, l2, l3⟩ := s_load f2 f3 (WN_A h)
  have lf := (fr_rv (S := (f_Opd_place S 1).2) (c := (f_Opd_place S 1).1) (WN_A h)).trans f4
  have hw := WN_fr h lf
  refine ⟨rfl, rfl, s_add2 l3 ?_⟩
  rw [l1]
  exact msk_cut (WN_A h) _
theorem ec_E2 (S : Sc) : f_Prc_changeFlags S (226 : Int32) = ((1 : Int32), (f_Reg_replaceP (f_Opd_nextByte S).2 ((S.1 8) ||| (f_Opd_nextByte S).1))) := rfl
theorem em_E2 (T : Sc) : f_Mdl_other T (226 : Int32) = ((1 : Int32), (f_Mdl_setFlags (f_Mdl_next T).2 ((T.1 6) ||| (f_Mdl_next T).1))) := rfl
theorem o_E2 {S T : Sc} (h : RR S T) : KO (f_Prc_changeFlags S (226 : Int32)) (f_Mdl_other T (226 : Int32)) := by
  rw [ec_E2, em_E2]
  obtain ⟨a1, a2, a3⟩ := s_next h
  exact ⟨rfl, rfl, s_setP a3 (by rw [← a1, ← RRe_8 h]; exact (r8_or (RRr_8 h) a2).symm)⟩
theorem ec_E3 (S : Sc) : f_Prc_useAccumulator S (227 : Int32) = ((1 : Int32), (f_Prc_addToA (f_Bus_readValue (f_Opd_place S (3 : Int32)).2 (f_Opd_place S (3 : Int32)).1 (f_Reg_wideA S)).2 (((f_Bus_readValue (f_Opd_place S (3 : Int32)).2 (f_Opd_place S (3 : Int32)).1 (f_Reg_wideA S)).1 ^^^ (-1 : Int32)) &&& (f_Reg_maskOf (f_Reg_wideA S))))) := rfl
theorem em_E3 (T : Sc) : f_Mdl_arithmetic T (227 : Int32) = ((1 : Int32), (f_Mdl_add (f_Mdl_load (f_Mdl_find T (3 : Int32)).2 (f_Mdl_is T (32 : Int32))).2 (f_Mdl_cut ((f_Mdl_load (f_Mdl_find T (3 : Int32)).2 (f_Mdl_is T (32 : Int32))).1 ^^^ (-1 : Int32)) (f_Mdl_is T (32 : Int32))))) := by
  have e : f_Mdl_arithmetic T (227 : Int32) = if (f_Mdl_find T (3 : Int32)).1 = (0 : Int32) then (((0 : Int32), (f_Mdl_find T (3 : Int32)).2)) else (((1 : Int32), (f_Mdl_add (f_Mdl_load (f_Mdl_find T (3 : Int32)).2 (f_Mdl_is T (32 : Int32))).2 (f_Mdl_cut ((f_Mdl_load (f_Mdl_find T (3 : Int32)).2 (f_Mdl_is T (32 : Int32))).1 ^^^ (-1 : Int32)) (f_Mdl_is T (32 : Int32)))))) := rfl
  rw [e, fd1_3, if_neg (by decide : ¬ (1 : Int32) = 0)]
theorem o_E3 {S T : Sc} (h : RR S T) : KO (f_Prc_useAccumulator S (227 : Int32)) (f_Mdl_arithmetic T (227 : Int32)) := by
  rw [ec_E3, em_E3]
  obtain ⟨f1, f2, f3, f4⟩ := sp_3 h
  obtain ⟨l1, l2, l3⟩ := s_load f2 f3 (WN_A h)
  have lf := (fr_rv (S := (f_Opd_place S 3).2) (c := (f_Opd_place S 3).1) (WN_A h)).trans f4
  have hw := WN_fr h lf
  refine ⟨rfl, rfl, s_add2 l3 ?_⟩
  rw [l1]
  exact msk_cut (WN_A h) _
theorem ec_E5 (S : Sc) : f_Prc_useAccumulator S (229 : Int32) = ((1 : Int32), (f_Prc_addToA (f_Bus_readValue (f_Opd_place S (5 : Int32)).2 (f_Opd_place S (5 : Int32)).1 (f_Reg_wideA S)).2 (((f_Bus_readValue (f_Opd_place S (5 : Int32)).2 (f_Opd_place S (5 : Int32)).1 (f_Reg_wideA S)).1 ^^^ (-1 : Int32)) &&& (f_Reg_maskOf (f_Reg_wideA S))))) := rfl
theorem em_E5 (T : Sc) : f_Mdl_arithmetic T (229 : Int32) = ((1 : Int32), (f_Mdl_add (f_Mdl_load (f_Mdl_find T (5 : Int32)).2 (f_Mdl_is T (32 : Int32))).2 (f_Mdl_cut ((f_Mdl_load (f_Mdl_find T (5 : Int32)).2 (f_Mdl_is T (32 : Int32))).1 ^^^ (-1 : Int32)) (f_Mdl_is T (32 : Int32))))) := by
  have e : f_Mdl_arithmetic T (229 : Int32) = if (f_Mdl_find T (5 : Int32)).1 = (0 : Int32) then (((0 : Int32), (f_Mdl_find T (5 : Int32)).2)) else (((1 : Int32), (f_Mdl_add (f_Mdl_load (f_Mdl_find T (5 : Int32)).2 (f_Mdl_is T (32 : Int32))).2 (f_Mdl_cut ((f_Mdl_load (f_Mdl_find T (5 : Int32)).2 (f_Mdl_is T (32 : Int32))).1 ^^^ (-1 : Int32)) (f_Mdl_is T (32 : Int32)))))) := rfl
  rw [e, fd1_5, if_neg (by decide : ¬ (1 : Int32) = 0)]
theorem o_E5 {S T : Sc} (h : RR S T) : KO (f_Prc_useAccumulator S (229 : Int32)) (f_Mdl_arithmetic T (229 : Int32)) := by
  rw [ec_E5, em_E5]
  obtain ⟨f1, f2, f3, f4⟩ := sp_5 h
  obtain ⟨l1, l2, l3⟩ := s_load f2 f3 (WN_A h)
  have lf := (fr_rv (S := (f_Opd_place S 5).2) (c := (f_Opd_place S 5).1) (WN_A h)).trans f4
  have hw := WN_fr h lf
  refine ⟨rfl, rfl, s_add2 l3 ?_⟩
  rw [l1]
  exact msk_cut (WN_A h) _
theorem ec_E6 (S : Sc) : f_Prc_changeMemory S (230 : Int32) = ((1 : Int32), (f_Bus_writeValue (f_Reg_showResult (f_Prc_changed (f_Bus_readValue (f_Opd_place S (5 : Int32)).2 (f_Opd_place S (5 : Int32)).1 (f_Reg_wideA S)).2 (7 : Int32) (f_Bus_readValue (f_Opd_place S (5 : Int32)).2 (f_Opd_place S (5 : Int32)).1 (f_Reg_wideA S)).1 (f_Reg_wideA S)).2 (f_Prc_changed (f_Bus_readValue (f_Opd_place S (5 : Int32)).2 (f_Opd_place S (5 : Int32)).1 (f_Reg_wideA S)).2 (7 : Int32) (f_Bus_readValue (f_Opd_place S (5 : Int32)).2 (f_Opd_place S (5 : Int32)).1 (f_Reg_wideA S)).1 (f_Reg_wideA S)).1 (f_Reg_wideA S)) (f_Opd_place S (5 : Int32)).1 (f_Prc_changed (f_Bus_readValue (f_Opd_place S (5 : Int32)).2 (f_Opd_place S (5 : Int32)).1 (f_Reg_wideA S)).2 (7 : Int32) (f_Bus_readValue (f_Opd_place S (5 : Int32)).2 (f_Opd_place S (5 : Int32)).1 (f_Reg_wideA S)).1 (f_Reg_wideA S)).1 (f_Reg_wideA S))) := rfl
theorem em_E6 (T : Sc) : f_Mdl_change T (230 : Int32) = ((1 : Int32), (f_Mdl_changeMemory T (0 : Int32) (0 : Int32))) := rfl
theorem o_E6 {S T : Sc} (h : RR S T) : KO (f_Prc_changeMemory S (230 : Int32)) (f_Mdl_change T (230 : Int32)) := by
  rw [ec_E6, em_E6]
  exact ⟨rfl, rfl, s_cm h 5 0 (Or.inl ⟨rfl, rfl⟩) (cm0 T 0) (fun {S T : Sc} {v w n : Int32} => sc_7)⟩
theorem ec_E7 (S : Sc) : f_Prc_useAccumulator S (231 : Int32) = ((1 : Int32), (f_Prc_addToA (f_Bus_readValue (f_Opd_place S (7 : Int32)).2 (f_Opd_place S (7 : Int32)).1 (f_Reg_wideA S)).2 (((f_Bus_readValue (f_Opd_place S (7 : Int32)).2 (f_Opd_place S (7 : Int32)).1 (f_Reg_wideA S)).1 ^^^ (-1 : Int32)) &&& (f_Reg_maskOf (f_Reg_wideA S))))) := rfl
theorem em_E7 (T : Sc) : f_Mdl_arithmetic T (231 : Int32) = ((1 : Int32), (f_Mdl_add (f_Mdl_load (f_Mdl_find T (7 : Int32)).2 (f_Mdl_is T (32 : Int32))).2 (f_Mdl_cut ((f_Mdl_load (f_Mdl_find T (7 : Int32)).2 (f_Mdl_is T (32 : Int32))).1 ^^^ (-1 : Int32)) (f_Mdl_is T (32 : Int32))))) := by
  have e : f_Mdl_arithmetic T (231 : Int32) = if (f_Mdl_find T (7 : Int32)).1 = (0 : Int32) then (((0 : Int32), (f_Mdl_find T (7 : Int32)).2)) else (((1 : Int32), (f_Mdl_add (f_Mdl_load (f_Mdl_find T (7 : Int32)).2 (f_Mdl_is T (32 : Int32))).2 (f_Mdl_cut ((f_Mdl_load (f_Mdl_find T (7 : Int32)).2 (f_Mdl_is T (32 : Int32))).1 ^^^ (-1 : Int32)) (f_Mdl_is T (32 : Int32)))))) := rfl
  rw [e, fd1_7, if_neg (by decide : ¬ (1 : Int32) = 0)]
theorem o_E7 {S T : Sc} (h : RR S T) : KO (f_Prc_useAccumulator S (231 : Int32)) (f_Mdl_arithmetic T (231 : Int32)) := by
  rw [ec_E7, em_E7]
  obtain ⟨f1, f2, f3, f4⟩ := sp_7 h
  obtain ⟨l1, l2, l3⟩ := s_load f2 f3 (WN_A h)
  have lf := (fr_rv (S := (f_Opd_place S 7).2) (c := (f_Opd_place S 7).1) (WN_A h)).trans f4
  have hw := WN_fr h lf
  refine ⟨rfl, rfl, s_add2 l3 ?_⟩
  rw [l1]
  exact msk_cut (WN_A h) _
theorem ec_E8 (S : Sc) : f_Prc_changeRegister S (232 : Int32) = ((1 : Int32), (f_Reg_loadX S ((S.1 1) + (1 : Int32)))) := rfl
theorem em_E8 (T : Sc) : f_Mdl_index T (232 : Int32) = ((1 : Int32), (pr (f_Mdl_result T ((T.1 1) + (1 : Int32)) (f_Mdl_is T (16 : Int32))).2 1 ((f_Mdl_result T ((T.1 1) + (1 : Int32)) (f_Mdl_is T (16 : Int32))).1))) := rfl
theorem o_E8 {S T : Sc} (h : RR S T) : KO (f_Prc_changeRegister S (232 : Int32)) (f_Mdl_index T (232 : Int32)) := by
  rw [ec_E8, em_E8]
  exact ⟨rfl, rfl, s_loadX2 h (WN_I h) (by rw [RRe_1 h])⟩
theorem ec_E9 (S : Sc) : f_Prc_useAccumulator S (233 : Int32) = ((1 : Int32), (f_Prc_addToA (f_Opd_nextValue S (f_Reg_wideA S)).2 (((f_Opd_nextValue S (f_Reg_wideA S)).1 ^^^ (-1 : Int32)) &&& (f_Reg_maskOf (f_Reg_wideA S))))) := rfl
theorem em_E9 (T : Sc) : f_Mdl_arithmetic T (233 : Int32) = ((1 : Int32), (f_Mdl_add (f_Mdl_immediate T (f_Mdl_is T (32 : Int32))).2 (f_Mdl_cut ((f_Mdl_immediate T (f_Mdl_is T (32 : Int32))).1 ^^^ (-1 : Int32)) (f_Mdl_is T (32 : Int32))))) := rfl
theorem o_E9 {S T : Sc} (h : RR S T) : KO (f_Prc_useAccumulator S (233 : Int32)) (f_Mdl_arithmetic T (233 : Int32)) := by
  rw [ec_E9, em_E9]
  obtain ⟨l1, l2, l3⟩ := s_nv h (WN_A h)
  have lf := fr_nv (S := S) (WN_A h)
  have hw := WN_fr h lf
  refine ⟨rfl, rfl, s_add2 l3 ?_⟩
  rw [l1]
  exact msk_cut (WN_A h) _
theorem ec_EA (S : Sc) : f_Prc_changeFlags S (234 : Int32) = ((1 : Int32), S) := rfl
theorem em_EA (T : Sc) : f_Mdl_other T (234 : Int32) = ((1 : Int32), T) := rfl
theorem o_EA {S T : Sc} (h : RR S T) : KO (f_Prc_changeFlags S (234 : Int32)) (f_Mdl_other T (234 : Int32)) := by
  rw [ec_EA, em_EA]
  exact ⟨rfl, rfl, h⟩
theorem ec_EB (S : Sc) : f_Prc_transfer S (235 : Int32) = ((1 : Int32), (f_Reg_showResult (pr S 0 ((((S.1 0) >>> ((8 : Int32) &&& 31)) ||| (((S.1 0) &&& (255 : Int32)) <<< ((8 : Int32) &&& 31))))) ((((S.1 0) >>> ((8 : Int32) &&& 31)) ||| (((S.1 0) &&& (255 : Int32)) <<< ((8 : Int32) &&& 31))) &&& (255 : Int32)) (0 : Int32))) := rfl
theorem em_EB (T : Sc) : f_Mdl_transfer T (235 : Int32) = ((1 : Int32), (f_Mdl_result (pr T 0 ((((T.1 0) >>> ((8 : Int32) &&& 31)) ||| (((T.1 0) &&& (255 : Int32)) <<< ((8 : Int32) &&& 31))))) (((T.1 0) >>> ((8 : Int32) &&& 31)) ||| (((T.1 0) &&& (255 : Int32)) <<< ((8 : Int32) &&& 31))) (1 : Int32)).2) := rfl
theorem o_EB {S T : Sc} (h : RR S T) : KO (f_Prc_transfer S (235 : Int32)) (f_Mdl_transfer T (235 : Int32)) := by
  rw [ec_EB, em_EB]
  have h1 := R_0 (v := (S.1 0 >>> ((8 : Int32) &&& 31)) ||| ((S.1 0 &&& 255) <<< ((8 : Int32) &&& 31))) (v2 := (T.1 0 >>> ((8 : Int32) &&& 31)) ||| ((T.1 0 &&& 255) <<< ((8 : Int32) &&& 31))) h (by rw [RRe_0 h]) (xba (RRr_0 h))
  have k := s_show (v := (S.1 0 >>> ((8 : Int32) &&& 31)) ||| ((S.1 0 &&& 255) <<< ((8 : Int32) &&& 31))) h1 WN_0
  refine ⟨rfl, rfl, ?_⟩
  have k2 := k.2
  rw [RRe_0 h] at k2
  show RR (f_Reg_showResult (pr S 0 ((S.1 0 >>> ((8 : Int32) &&& 31)) ||| ((S.1 0 &&& 255) <<< ((8 : Int32) &&& 31)))) (((S.1 0 >>> ((8 : Int32) &&& 31)) ||| ((S.1 0 &&& 255) <<< ((8 : Int32) &&& 31))) &&& 255) 0) _
  rw [RRe_0 h]; exact k2
theorem ec_ED (S : Sc) : f_Prc_useAccumulator S (237 : Int32) = ((1 : Int32), (f_Prc_addToA (f_Bus_readValue (f_Opd_place S (13 : Int32)).2 (f_Opd_place S (13 : Int32)).1 (f_Reg_wideA S)).2 (((f_Bus_readValue (f_Opd_place S (13 : Int32)).2 (f_Opd_place S (13 : Int32)).1 (f_Reg_wideA S)).1 ^^^ (-1 : Int32)) &&& (f_Reg_maskOf (f_Reg_wideA S))))) := rfl
theorem em_ED (T : Sc) : f_Mdl_arithmetic T (237 : Int32) = ((1 : Int32), (f_Mdl_add (f_Mdl_load (f_Mdl_find T (13 : Int32)).2 (f_Mdl_is T (32 : Int32))).2 (f_Mdl_cut ((f_Mdl_load (f_Mdl_find T (13 : Int32)).2 (f_Mdl_is T (32 : Int32))).1 ^^^ (-1 : Int32)) (f_Mdl_is T (32 : Int32))))) := by
  have e : f_Mdl_arithmetic T (237 : Int32) = if (f_Mdl_find T (13 : Int32)).1 = (0 : Int32) then (((0 : Int32), (f_Mdl_find T (13 : Int32)).2)) else (((1 : Int32), (f_Mdl_add (f_Mdl_load (f_Mdl_find T (13 : Int32)).2 (f_Mdl_is T (32 : Int32))).2 (f_Mdl_cut ((f_Mdl_load (f_Mdl_find T (13 : Int32)).2 (f_Mdl_is T (32 : Int32))).1 ^^^ (-1 : Int32)) (f_Mdl_is T (32 : Int32)))))) := rfl
  rw [e, fd1_13, if_neg (by decide : ¬ (1 : Int32) = 0)]
theorem o_ED {S T : Sc} (h : RR S T) : KO (f_Prc_useAccumulator S (237 : Int32)) (f_Mdl_arithmetic T (237 : Int32)) := by
  rw [ec_ED, em_ED]
  obtain ⟨f1, f2, f3, f4⟩ := sp_13 h
  obtain ⟨l1, l2, l3⟩ := s_load f2 f3 (WN_A h)
  have lf := (fr_rv (S := (f_Opd_place S 13).2) (c := (f_Opd_place S 13).1) (WN_A h)).trans f4
  have hw := WN_fr h lf
  refine ⟨rfl, rfl, s_add2 l3 ?_⟩
  rw [l1]
  exact msk_cut (WN_A h) _
theorem ec_EE (S : Sc) : f_Prc_changeMemory S (238 : Int32) = ((1 : Int32), (f_Bus_writeValue (f_Reg_showResult (f_Prc_changed (f_Bus_readValue (f_Opd_place S (13 : Int32)).2 (f_Opd_place S (13 : Int32)).1 (f_Reg_wideA S)).2 (7 : Int32) (f_Bus_readValue (f_Opd_place S (13 : Int32)).2 (f_Opd_place S (13 : Int32)).1 (f_Reg_wideA S)).1 (f_Reg_wideA S)).2 (f_Prc_changed (f_Bus_readValue (f_Opd_place S (13 : Int32)).2 (f_Opd_place S (13 : Int32)).1 (f_Reg_wideA S)).2 (7 : Int32) (f_Bus_readValue (f_Opd_place S (13 : Int32)).2 (f_Opd_place S (13 : Int32)).1 (f_Reg_wideA S)).1 (f_Reg_wideA S)).1 (f_Reg_wideA S)) (f_Opd_place S (13 : Int32)).1 (f_Prc_changed (f_Bus_readValue (f_Opd_place S (13 : Int32)).2 (f_Opd_place S (13 : Int32)).1 (f_Reg_wideA S)).2 (7 : Int32) (f_Bus_readValue (f_Opd_place S (13 : Int32)).2 (f_Opd_place S (13 : Int32)).1 (f_Reg_wideA S)).1 (f_Reg_wideA S)).1 (f_Reg_wideA S))) := rfl
theorem em_EE (T : Sc) : f_Mdl_change T (238 : Int32) = ((1 : Int32), (f_Mdl_changeMemory T (0 : Int32) (1 : Int32))) := rfl
theorem o_EE {S T : Sc} (h : RR S T) : KO (f_Prc_changeMemory S (238 : Int32)) (f_Mdl_change T (238 : Int32)) := by
  rw [ec_EE, em_EE]
  exact ⟨rfl, rfl, s_cm h 13 1 (Or.inr ⟨rfl, rfl⟩) (cm1 T 0) (fun {S T : Sc} {v w n : Int32} => sc_7)⟩
theorem ec_EF (S : Sc) : f_Prc_useAccumulator S (239 : Int32) = ((1 : Int32), (f_Prc_addToA (f_Bus_readValue (f_Opd_place S (15 : Int32)).2 (f_Opd_place S (15 : Int32)).1 (f_Reg_wideA S)).2 (((f_Bus_readValue (f_Opd_place S (15 : Int32)).2 (f_Opd_place S (15 : Int32)).1 (f_Reg_wideA S)).1 ^^^ (-1 : Int32)) &&& (f_Reg_maskOf (f_Reg_wideA S))))) := rfl
theorem em_EF (T : Sc) : f_Mdl_arithmetic T (239 : Int32) = ((1 : Int32), (f_Mdl_add (f_Mdl_load (f_Mdl_find T (15 : Int32)).2 (f_Mdl_is T (32 : Int32))).2 (f_Mdl_cut ((f_Mdl_load (f_Mdl_find T (15 : Int32)).2 (f_Mdl_is T (32 : Int32))).1 ^^^ (-1 : Int32)) (f_Mdl_is T (32 : Int32))))) := by
  have e : f_Mdl_arithmetic T (239 : Int32) = if (f_Mdl_find T (15 : Int32)).1 = (0 : Int32) then (((0 : Int32), (f_Mdl_find T (15 : Int32)).2)) else (((1 : Int32), (f_Mdl_add (f_Mdl_load (f_Mdl_find T (15 : Int32)).2 (f_Mdl_is T (32 : Int32))).2 (f_Mdl_cut ((f_Mdl_load (f_Mdl_find T (15 : Int32)).2 (f_Mdl_is T (32 : Int32))).1 ^^^ (-1 : Int32)) (f_Mdl_is T (32 : Int32)))))) := rfl
  rw [e, fd1_15, if_neg (by decide : ¬ (1 : Int32) = 0)]
theorem o_EF {S T : Sc} (h : RR S T) : KO (f_Prc_useAccumulator S (239 : Int32)) (f_Mdl_arithmetic T (239 : Int32)) := by
  rw [ec_EF, em_EF]
  obtain ⟨f1, f2, f3, f4⟩ := sp_15 h
  obtain ⟨l1, l2, l3⟩ := s_load f2 f3 (WN_A h)
  have lf := (fr_rv (S := (f_Opd_place S 15).2) (c := (f_Opd_place S 15).1) (WN_A h)).trans f4
  have hw := WN_fr h lf
  refine ⟨rfl, rfl, s_add2 l3 ?_⟩
  rw [l1]
  exact msk_cut (WN_A h) _
theorem ec_F0 (S : Sc) : f_Prc_branch S (240 : Int32) = if (f_Reg_has (f_Opd_nextByte S).2 (bf ((3 : Int32)).toNatClampNeg)) = (1 : Int32) then (((1 : Int32), (f_Reg_jumpTo (f_Opd_nextByte S).2 (((f_Opd_nextByte S).2.1 7) + (((f_Opd_nextByte S).1).toInt8.toInt32))))) else (((1 : Int32), (f_Opd_nextByte S).2)) := rfl
theorem em_F0 (T : Sc) : f_Mdl_jump T (240 : Int32) = ((1 : Int32), (f_Mdl_branch T (f_Mdl_is T (2 : Int32)))) := rfl
theorem o_F0 {S T : Sc} (h : RR S T) : KO (f_Prc_branch S (240 : Int32)) (f_Mdl_jump T (240 : Int32)) := by
  rw [ec_F0, em_F0]
  have e : f_Reg_has (f_Opd_nextByte S).2 (2 : Int32) = f_Mdl_is T (2 : Int32) := has_n h (2 : Int32)
  have eb : bf (3 : Int32).toNatClampNeg = (2 : Int32) := rfl
  rw [eb, e]
  have b := s_br (x := f_Mdl_is T 2) h
  by_cases z : f_Mdl_is T (2 : Int32) = (1 : Int32)
  · rw [if_pos z]; exact ⟨rfl, rfl, b.1 (by rw [z]; decide)⟩
  · rw [if_neg z]; exact ⟨rfl, rfl, b.2 (is_01 z)⟩
theorem ec_F1 (S : Sc) : f_Prc_useAccumulator S (241 : Int32) = ((1 : Int32), (f_Prc_addToA (f_Bus_readValue (f_Opd_place S (17 : Int32)).2 (f_Opd_place S (17 : Int32)).1 (f_Reg_wideA S)).2 (((f_Bus_readValue (f_Opd_place S (17 : Int32)).2 (f_Opd_place S (17 : Int32)).1 (f_Reg_wideA S)).1 ^^^ (-1 : Int32)) &&& (f_Reg_maskOf (f_Reg_wideA S))))) := rfl
theorem em_F1 (T : Sc) : f_Mdl_arithmetic T (241 : Int32) = ((1 : Int32), (f_Mdl_add (f_Mdl_load (f_Mdl_find T (17 : Int32)).2 (f_Mdl_is T (32 : Int32))).2 (f_Mdl_cut ((f_Mdl_load (f_Mdl_find T (17 : Int32)).2 (f_Mdl_is T (32 : Int32))).1 ^^^ (-1 : Int32)) (f_Mdl_is T (32 : Int32))))) := by
  have e : f_Mdl_arithmetic T (241 : Int32) = if (f_Mdl_find T (17 : Int32)).1 = (0 : Int32) then (((0 : Int32), (f_Mdl_find T (17 : Int32)).2)) else (((1 : Int32), (f_Mdl_add (f_Mdl_load (f_Mdl_find T (17 : Int32)).2 (f_Mdl_is T (32 : Int32))).2 (f_Mdl_cut ((f_Mdl_load (f_Mdl_find T (17 : Int32)).2 (f_Mdl_is T (32 : Int32))).1 ^^^ (-1 : Int32)) (f_Mdl_is T (32 : Int32)))))) := rfl
  rw [e, fd1_17, if_neg (by decide : ¬ (1 : Int32) = 0)]
theorem o_F1 {S T : Sc} (h : RR S T) : KO (f_Prc_useAccumulator S (241 : Int32)) (f_Mdl_arithmetic T (241 : Int32)) := by
  rw [ec_F1, em_F1]
  obtain ⟨f1, f2, f3, f4⟩ := sp_17 h
  obtain ⟨l1, l2, l3⟩ := s_load f2 f3 (WN_A h)
  have lf := (fr_rv (S := (f_Opd_place S 17).2) (c := (f_Opd_place S 17).1) (WN_A h)).trans f4
  have hw := WN_fr h lf
  refine ⟨rfl, rfl, s_add2 l3 ?_⟩
  rw [l1]
  exact msk_cut (WN_A h) _
theorem ec_F2 (S : Sc) : f_Prc_useAccumulator S (242 : Int32) = ((1 : Int32), (f_Prc_addToA (f_Bus_readValue (f_Opd_place S (18 : Int32)).2 (f_Opd_place S (18 : Int32)).1 (f_Reg_wideA S)).2 (((f_Bus_readValue (f_Opd_place S (18 : Int32)).2 (f_Opd_place S (18 : Int32)).1 (f_Reg_wideA S)).1 ^^^ (-1 : Int32)) &&& (f_Reg_maskOf (f_Reg_wideA S))))) := rfl
theorem em_F2 (T : Sc) : f_Mdl_arithmetic T (242 : Int32) = ((1 : Int32), (f_Mdl_add (f_Mdl_load (f_Mdl_find T (18 : Int32)).2 (f_Mdl_is T (32 : Int32))).2 (f_Mdl_cut ((f_Mdl_load (f_Mdl_find T (18 : Int32)).2 (f_Mdl_is T (32 : Int32))).1 ^^^ (-1 : Int32)) (f_Mdl_is T (32 : Int32))))) := by
  have e : f_Mdl_arithmetic T (242 : Int32) = if (f_Mdl_find T (18 : Int32)).1 = (0 : Int32) then (((0 : Int32), (f_Mdl_find T (18 : Int32)).2)) else (((1 : Int32), (f_Mdl_add (f_Mdl_load (f_Mdl_find T (18 : Int32)).2 (f_Mdl_is T (32 : Int32))).2 (f_Mdl_cut ((f_Mdl_load (f_Mdl_find T (18 : Int32)).2 (f_Mdl_is T (32 : Int32))).1 ^^^ (-1 : Int32)) (f_Mdl_is T (32 : Int32)))))) := rfl
  rw [e, fd1_18, if_neg (by decide : ¬ (1 : Int32) = 0)]
theorem o_F2 {S T : Sc} (h : RR S T) : KO (f_Prc_useAccumulator S (242 : Int32)) (f_Mdl_arithmetic T (242 : Int32)) := by
  rw [ec_F2, em_F2]
  obtain ⟨f1, f2, f3, f4⟩ := sp_18 h
  obtain ⟨l1, l2, l3⟩ := s_load f2 f3 (WN_A h)
  have lf := (fr_rv (S := (f_Opd_place S 18).2) (c := (f_Opd_place S 18).1) (WN_A h)).trans f4
  have hw := WN_fr h lf
  refine ⟨rfl, rfl, s_add2 l3 ?_⟩
  rw [l1]
  exact msk_cut (WN_A h) _
theorem ec_F3 (S : Sc) : f_Prc_useAccumulator S (243 : Int32) = ((1 : Int32), (f_Prc_addToA (f_Bus_readValue (f_Opd_place S (19 : Int32)).2 (f_Opd_place S (19 : Int32)).1 (f_Reg_wideA S)).2 (((f_Bus_readValue (f_Opd_place S (19 : Int32)).2 (f_Opd_place S (19 : Int32)).1 (f_Reg_wideA S)).1 ^^^ (-1 : Int32)) &&& (f_Reg_maskOf (f_Reg_wideA S))))) := rfl
theorem em_F3 (T : Sc) : f_Mdl_arithmetic T (243 : Int32) = ((1 : Int32), (f_Mdl_add (f_Mdl_load (f_Mdl_find T (19 : Int32)).2 (f_Mdl_is T (32 : Int32))).2 (f_Mdl_cut ((f_Mdl_load (f_Mdl_find T (19 : Int32)).2 (f_Mdl_is T (32 : Int32))).1 ^^^ (-1 : Int32)) (f_Mdl_is T (32 : Int32))))) := by
  have e : f_Mdl_arithmetic T (243 : Int32) = if (f_Mdl_find T (19 : Int32)).1 = (0 : Int32) then (((0 : Int32), (f_Mdl_find T (19 : Int32)).2)) else (((1 : Int32), (f_Mdl_add (f_Mdl_load (f_Mdl_find T (19 : Int32)).2 (f_Mdl_is T (32 : Int32))).2 (f_Mdl_cut ((f_Mdl_load (f_Mdl_find T (19 : Int32)).2 (f_Mdl_is T (32 : Int32))).1 ^^^ (-1 : Int32)) (f_Mdl_is T (32 : Int32)))))) := rfl
  rw [e, fd1_19, if_neg (by decide : ¬ (1 : Int32) = 0)]
theorem o_F3 {S T : Sc} (h : RR S T) : KO (f_Prc_useAccumulator S (243 : Int32)) (f_Mdl_arithmetic T (243 : Int32)) := by
  rw [ec_F3, em_F3]
  obtain ⟨f1, f2, f3, f4⟩ := sp_19 h
  obtain ⟨l1, l2, l3⟩ := s_load f2 f3 (WN_A h)
  have lf := (fr_rv (S := (f_Opd_place S 19).2) (c := (f_Opd_place S 19).1) (WN_A h)).trans f4
  have hw := WN_fr h lf
  refine ⟨rfl, rfl, s_add2 l3 ?_⟩
  rw [l1]
  exact msk_cut (WN_A h) _
theorem ec_F4 (S : Sc) : f_Prc_push S (244 : Int32) = ((1 : Int32), (f_Stk_pushWord (f_Opd_nextWord S).2 (f_Opd_nextWord S).1)) := rfl
theorem em_F4 (T : Sc) : f_Mdl_stack T (244 : Int32) = ((1 : Int32), (f_Mdl_pushWord (f_Mdl_nextWord T).2 (f_Mdl_nextWord T).1)) := rfl
theorem o_F4 {S T : Sc} (h : RR S T) : KO (f_Prc_push S (244 : Int32)) (f_Mdl_stack T (244 : Int32)) := by
  rw [ec_F4, em_F4]
  obtain ⟨a1, a2, a3⟩ := s_nw h
  exact ⟨rfl, rfl, s_pushW2 a3 a1⟩
theorem ec_F5 (S : Sc) : f_Prc_useAccumulator S (245 : Int32) = ((1 : Int32), (f_Prc_addToA (f_Bus_readValue (f_Opd_place S (21 : Int32)).2 (f_Opd_place S (21 : Int32)).1 (f_Reg_wideA S)).2 (((f_Bus_readValue (f_Opd_place S (21 : Int32)).2 (f_Opd_place S (21 : Int32)).1 (f_Reg_wideA S)).1 ^^^ (-1 : Int32)) &&& (f_Reg_maskOf (f_Reg_wideA S))))) := rfl
theorem em_F5 (T : Sc) : f_Mdl_arithmetic T (245 : Int32) = ((1 : Int32), (f_Mdl_add (f_Mdl_load (f_Mdl_find T (21 : Int32)).2 (f_Mdl_is T (32 : Int32))).2 (f_Mdl_cut ((f_Mdl_load (f_Mdl_find T (21 : Int32)).2 (f_Mdl_is T (32 : Int32))).1 ^^^ (-1 : Int32)) (f_Mdl_is T (32 : Int32))))) := by
  have e : f_Mdl_arithmetic T (245 : Int32) = if (f_Mdl_find T (21 : Int32)).1 = (0 : Int32) then (((0 : Int32), (f_Mdl_find T (21 : Int32)).2)) else (((1 : Int32), (f_Mdl_add (f_Mdl_load (f_Mdl_find T (21 : Int32)).2 (f_Mdl_is T (32 : Int32))).2 (f_Mdl_cut ((f_Mdl_load (f_Mdl_find T (21 : Int32)).2 (f_Mdl_is T (32 : Int32))).1 ^^^ (-1 : Int32)) (f_Mdl_is T (32 : Int32)))))) := rfl
  rw [e, fd1_21, if_neg (by decide : ¬ (1 : Int32) = 0)]
theorem o_F5 {S T : Sc} (h : RR S T) : KO (f_Prc_useAccumulator S (245 : Int32)) (f_Mdl_arithmetic T (245 : Int32)) := by
  rw [ec_F5, em_F5]
  obtain ⟨f1, f2, f3, f4⟩ := sp_21 h
  obtain ⟨l1, l2, l3⟩ := s_load f2 f3 (WN_A h)
  have lf := (fr_rv (S := (f_Opd_place S 21).2) (c := (f_Opd_place S 21).1) (WN_A h)).trans f4
  have hw := WN_fr h lf
  refine ⟨rfl, rfl, s_add2 l3 ?_⟩
  rw [l1]
  exact msk_cut (WN_A h) _
theorem ec_F7 (S : Sc) : f_Prc_useAccumulator S (247 : Int32) = ((1 : Int32), (f_Prc_addToA (f_Bus_readValue (f_Opd_place S (23 : Int32)).2 (f_Opd_place S (23 : Int32)).1 (f_Reg_wideA S)).2 (((f_Bus_readValue (f_Opd_place S (23 : Int32)).2 (f_Opd_place S (23 : Int32)).1 (f_Reg_wideA S)).1 ^^^ (-1 : Int32)) &&& (f_Reg_maskOf (f_Reg_wideA S))))) := rfl
theorem em_F7 (T : Sc) : f_Mdl_arithmetic T (247 : Int32) = ((1 : Int32), (f_Mdl_add (f_Mdl_load (f_Mdl_find T (23 : Int32)).2 (f_Mdl_is T (32 : Int32))).2 (f_Mdl_cut ((f_Mdl_load (f_Mdl_find T (23 : Int32)).2 (f_Mdl_is T (32 : Int32))).1 ^^^ (-1 : Int32)) (f_Mdl_is T (32 : Int32))))) := by
  have e : f_Mdl_arithmetic T (247 : Int32) = if (f_Mdl_find T (23 : Int32)).1 = (0 : Int32) then (((0 : Int32), (f_Mdl_find T (23 : Int32)).2)) else (((1 : Int32), (f_Mdl_add (f_Mdl_load (f_Mdl_find T (23 : Int32)).2 (f_Mdl_is T (32 : Int32))).2 (f_Mdl_cut ((f_Mdl_load (f_Mdl_find T (23 : Int32)).2 (f_Mdl_is T (32 : Int32))).1 ^^^ (-1 : Int32)) (f_Mdl_is T (32 : Int32)))))) := rfl
  rw [e, fd1_23, if_neg (by decide : ¬ (1 : Int32) = 0)]
theorem o_F7 {S T : Sc} (h : RR S T) : KO (f_Prc_useAccumulator S (247 : Int32)) (f_Mdl_arithmetic T (247 : Int32)) := by
  rw [ec_F7, em_F7]
  obtain ⟨f1, f2, f3, f4⟩ := sp_23 h
  obtain ⟨l1, l2, l3⟩ := s_load f2 f3 (WN_A h)
  have lf := (fr_rv (S := (f_Opd_place S 23).2) (c := (f_Opd_place S 23).1) (WN_A h)).trans f4
  have hw := WN_fr h lf
  refine ⟨rfl, rfl, s_add2 l3 ?_⟩
  rw [l1]
  exact msk_cut (WN_A h) _
theorem ec_F8 (S : Sc) : f_Prc_changeFlags S (248 : Int32) = ((1 : Int32), (f_Reg_putFlag S (8 : Int32) (1 : Int32))) := rfl
theorem em_F8 (T : Sc) : f_Mdl_other T (248 : Int32) = ((1 : Int32), (f_Mdl_flag T (8 : Int32) (1 : Int32))) := rfl
theorem o_F8 {S T : Sc} (h : RR S T) : KO (f_Prc_changeFlags S (248 : Int32)) (f_Mdl_other T (248 : Int32)) := by
  rw [ec_F8, em_F8]
  exact ⟨rfl, rfl, s_flag h 8 1 (by decide)⟩
theorem ec_F9 (S : Sc) : f_Prc_useAccumulator S (249 : Int32) = ((1 : Int32), (f_Prc_addToA (f_Bus_readValue (f_Opd_place S (25 : Int32)).2 (f_Opd_place S (25 : Int32)).1 (f_Reg_wideA S)).2 (((f_Bus_readValue (f_Opd_place S (25 : Int32)).2 (f_Opd_place S (25 : Int32)).1 (f_Reg_wideA S)).1 ^^^ (-1 : Int32)) &&& (f_Reg_maskOf (f_Reg_wideA S))))) := rfl
theorem em_F9 (T : Sc) : f_Mdl_arithmetic T (249 : Int32) = ((1 : Int32), (f_Mdl_add (f_Mdl_load (f_Mdl_find T (25 : Int32)).2 (f_Mdl_is T (32 : Int32))).2 (f_Mdl_cut ((f_Mdl_load (f_Mdl_find T (25 : Int32)).2 (f_Mdl_is T (32 : Int32))).1 ^^^ (-1 : Int32)) (f_Mdl_is T (32 : Int32))))) := by
  have e : f_Mdl_arithmetic T (249 : Int32) = if (f_Mdl_find T (25 : Int32)).1 = (0 : Int32) then (((0 : Int32), (f_Mdl_find T (25 : Int32)).2)) else (((1 : Int32), (f_Mdl_add (f_Mdl_load (f_Mdl_find T (25 : Int32)).2 (f_Mdl_is T (32 : Int32))).2 (f_Mdl_cut ((f_Mdl_load (f_Mdl_find T (25 : Int32)).2 (f_Mdl_is T (32 : Int32))).1 ^^^ (-1 : Int32)) (f_Mdl_is T (32 : Int32)))))) := rfl
  rw [e, fd1_25, if_neg (by decide : ¬ (1 : Int32) = 0)]
theorem o_F9 {S T : Sc} (h : RR S T) : KO (f_Prc_useAccumulator S (249 : Int32)) (f_Mdl_arithmetic T (249 : Int32)) := by
  rw [ec_F9, em_F9]
  obtain ⟨f1, f2, f3, f4⟩ := sp_25 h
  obtain ⟨l1, l2, l3⟩ := s_load f2 f3 (WN_A h)
  have lf := (fr_rv (S := (f_Opd_place S 25).2) (c := (f_Opd_place S 25).1) (WN_A h)).trans f4
  have hw := WN_fr h lf
  refine ⟨rfl, rfl, s_add2 l3 ?_⟩
  rw [l1]
  exact msk_cut (WN_A h) _
theorem ec_FA (S : Sc) : f_Prc_pull S (250 : Int32) = ((1 : Int32), (f_Reg_loadX (f_Stk_pullValue S (f_Reg_wideIndex S)).2 (f_Stk_pullValue S (f_Reg_wideIndex S)).1)) := rfl
theorem em_FA (T : Sc) : f_Mdl_stack T (250 : Int32) = ((1 : Int32), (pr (f_Mdl_pullOf T (f_Mdl_is T (16 : Int32))).2 1 ((f_Mdl_pullOf T (f_Mdl_is T (16 : Int32))).1))) := rfl
theorem o_FA {S T : Sc} (h : RR S T) : KO (f_Prc_pull S (250 : Int32)) (f_Mdl_stack T (250 : Int32)) := by
  rw [ec_FA, em_FA]
  obtain ⟨r, T2, q1, q2, q3, q4⟩ := s_pv h (WN_I h)
  rw [q1]
  exact ⟨rfl, rfl, s_loadX2 q3 (WN_fi h q4) q2⟩
theorem ec_FD (S : Sc) : f_Prc_useAccumulator S (253 : Int32) = ((1 : Int32), (f_Prc_addToA (f_Bus_readValue (f_Opd_place S (29 : Int32)).2 (f_Opd_place S (29 : Int32)).1 (f_Reg_wideA S)).2 (((f_Bus_readValue (f_Opd_place S (29 : Int32)).2 (f_Opd_place S (29 : Int32)).1 (f_Reg_wideA S)).1 ^^^ (-1 : Int32)) &&& (f_Reg_maskOf (f_Reg_wideA S))))) := rfl
theorem em_FD (T : Sc) : f_Mdl_arithmetic T (253 : Int32) = ((1 : Int32), (f_Mdl_add (f_Mdl_load (f_Mdl_find T (29 : Int32)).2 (f_Mdl_is T (32 : Int32))).2 (f_Mdl_cut ((f_Mdl_load (f_Mdl_find T (29 : Int32)).2 (f_Mdl_is T (32 : Int32))).1 ^^^ (-1 : Int32)) (f_Mdl_is T (32 : Int32))))) := by
  have e : f_Mdl_arithmetic T (253 : Int32) = if (f_Mdl_find T (29 : Int32)).1 = (0 : Int32) then (((0 : Int32), (f_Mdl_find T (29 : Int32)).2)) else (((1 : Int32), (f_Mdl_add (f_Mdl_load (f_Mdl_find T (29 : Int32)).2 (f_Mdl_is T (32 : Int32))).2 (f_Mdl_cut ((f_Mdl_load (f_Mdl_find T (29 : Int32)).2 (f_Mdl_is T (32 : Int32))).1 ^^^ (-1 : Int32)) (f_Mdl_is T (32 : Int32)))))) := rfl
  rw [e, fd1_29, if_neg (by decide : ¬ (1 : Int32) = 0)]
theorem o_FD {S T : Sc} (h : RR S T) : KO (f_Prc_useAccumulator S (253 : Int32)) (f_Mdl_arithmetic T (253 : Int32)) := by
  rw [ec_FD, em_FD]
  obtain ⟨f1, f2, f3, f4⟩ := sp_29 h
  obtain ⟨l1, l2, l3⟩ := s_load f2 f3 (WN_A h)
  have lf := (fr_rv (S := (f_Opd_place S 29).2) (c := (f_Opd_place S 29).1) (WN_A h)).trans f4
  have hw := WN_fr h lf
  refine ⟨rfl, rfl, s_add2 l3 ?_⟩
  rw [l1]
  exact msk_cut (WN_A h) _
theorem ec_FF (S : Sc) : f_Prc_useAccumulator S (255 : Int32) = ((1 : Int32), (f_Prc_addToA (f_Bus_readValue (f_Opd_place S (31 : Int32)).2 (f_Opd_place S (31 : Int32)).1 (f_Reg_wideA S)).2 (((f_Bus_readValue (f_Opd_place S (31 : Int32)).2 (f_Opd_place S (31 : Int32)).1 (f_Reg_wideA S)).1 ^^^ (-1 : Int32)) &&& (f_Reg_maskOf (f_Reg_wideA S))))) := rfl
theorem em_FF (T : Sc) : f_Mdl_arithmetic T (255 : Int32) = ((1 : Int32), (f_Mdl_add (f_Mdl_load (f_Mdl_find T (31 : Int32)).2 (f_Mdl_is T (32 : Int32))).2 (f_Mdl_cut ((f_Mdl_load (f_Mdl_find T (31 : Int32)).2 (f_Mdl_is T (32 : Int32))).1 ^^^ (-1 : Int32)) (f_Mdl_is T (32 : Int32))))) := by
  have e : f_Mdl_arithmetic T (255 : Int32) = if (f_Mdl_find T (31 : Int32)).1 = (0 : Int32) then (((0 : Int32), (f_Mdl_find T (31 : Int32)).2)) else (((1 : Int32), (f_Mdl_add (f_Mdl_load (f_Mdl_find T (31 : Int32)).2 (f_Mdl_is T (32 : Int32))).2 (f_Mdl_cut ((f_Mdl_load (f_Mdl_find T (31 : Int32)).2 (f_Mdl_is T (32 : Int32))).1 ^^^ (-1 : Int32)) (f_Mdl_is T (32 : Int32)))))) := rfl
  rw [e, fd1_31, if_neg (by decide : ¬ (1 : Int32) = 0)]
theorem o_FF {S T : Sc} (h : RR S T) : KO (f_Prc_useAccumulator S (255 : Int32)) (f_Mdl_arithmetic T (255 : Int32)) := by
  rw [ec_FF, em_FF]
  obtain ⟨f1, f2, f3, f4⟩ := sp_31 h
  obtain ⟨l1, l2, l3⟩ := s_load f2 f3 (WN_A h)
  have lf := (fr_rv (S := (f_Opd_place S 31).2) (c := (f_Opd_place S 31).1) (WN_A h)).trans f4
  have hw := WN_fr h lf
  refine ⟨rfl, rfl, s_add2 l3 ?_⟩
  rw [l1]
  exact msk_cut (WN_A h) _
