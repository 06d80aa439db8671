def zb (x : Int32) : Prop := x = 0 ∨ x = 1
def RR (S T : Sc) : Prop :=
  (S.1 0 = T.1 0 ∧ S.1 1 = T.1 1 ∧ S.1 2 = T.1 2 ∧ S.1 3 = T.1 3 ∧ S.1 4 = T.1 4 ∧ S.1 5 = T.1 5 ∧ S.1 6 = T.1 7 ∧ S.1 7 = T.1 8 ∧ S.1 8 = T.1 6 ∧ S.1 9 = T.1 13 ∧ S.1 10 = T.1 10 ∧ S.1 11 = T.1 11 ∧ S.1 12 = T.1 9 ∧ S.1 13 = T.1 12) ∧
  (r16 (S.1 0) ∧ r16 (S.1 1) ∧ r16 (S.1 2) ∧ r16 (S.1 3) ∧ r16 (S.1 4) ∧ r8 (S.1 5) ∧ r8 (S.1 6) ∧ r16 (S.1 7) ∧ r8 (S.1 8) ∧ zb (S.1 10) ∧ zb (S.1 11) ∧ zb (S.1 12)) ∧
  (∀ k, k < 1024 → S.2.1 k &&& 255 = T.2.1 k) ∧ (∀ k, k < 8 → S.2.2 (((S.1 9).toBitVec.toNat + 4294967295 - k) % 8) = T.2.2 k)
theorem RRe_0 {S T : Sc} (h : RR S T) : S.1 0 = T.1 0 := h.1.1
theorem RRe_1 {S T : Sc} (h : RR S T) : S.1 1 = T.1 1 := h.1.2.1
theorem RRe_2 {S T : Sc} (h : RR S T) : S.1 2 = T.1 2 := h.1.2.2.1
theorem RRe_3 {S T : Sc} (h : RR S T) : S.1 3 = T.1 3 := h.1.2.2.2.1
theorem RRe_4 {S T : Sc} (h : RR S T) : S.1 4 = T.1 4 := h.1.2.2.2.2.1
theorem RRe_5 {S T : Sc} (h : RR S T) : S.1 5 = T.1 5 := h.1.2.2.2.2.2.1
theorem RRe_6 {S T : Sc} (h : RR S T) : S.1 6 = T.1 7 := h.1.2.2.2.2.2.2.1
theorem RRe_7 {S T : Sc} (h : RR S T) : S.1 7 = T.1 8 := h.1.2.2.2.2.2.2.2.1
theorem RRe_8 {S T : Sc} (h : RR S T) : S.1 8 = T.1 6 := h.1.2.2.2.2.2.2.2.2.1
theorem RRe_9 {S T : Sc} (h : RR S T) : S.1 9 = T.1 13 := h.1.2.2.2.2.2.2.2.2.2.1
theorem RRe_10 {S T : Sc} (h : RR S T) : S.1 10 = T.1 10 := h.1.2.2.2.2.2.2.2.2.2.2.1
theorem RRe_11 {S T : Sc} (h : RR S T) : S.1 11 = T.1 11 := h.1.2.2.2.2.2.2.2.2.2.2.2.1
theorem RRe_12 {S T : Sc} (h : RR S T) : S.1 12 = T.1 9 := h.1.2.2.2.2.2.2.2.2.2.2.2.2.1
theorem RRe_13 {S T : Sc} (h : RR S T) : S.1 13 = T.1 12 := h.1.2.2.2.2.2.2.2.2.2.2.2.2.2
theorem RRr_0 {S T : Sc} (h : RR S T) : r16 (S.1 0) := h.2.1.1
theorem RRr_1 {S T : Sc} (h : RR S T) : r16 (S.1 1) := h.2.1.2.1
theorem RRr_2 {S T : Sc} (h : RR S T) : r16 (S.1 2) := h.2.1.2.2.1
theorem RRr_3 {S T : Sc} (h : RR S T) : r16 (S.1 3) := h.2.1.2.2.2.1
theorem RRr_4 {S T : Sc} (h : RR S T) : r16 (S.1 4) := h.2.1.2.2.2.2.1
theorem RRr_5 {S T : Sc} (h : RR S T) : r8 (S.1 5) := h.2.1.2.2.2.2.2.1
theorem RRr_6 {S T : Sc} (h : RR S T) : r8 (S.1 6) := h.2.1.2.2.2.2.2.2.1
theorem RRr_7 {S T : Sc} (h : RR S T) : r16 (S.1 7) := h.2.1.2.2.2.2.2.2.2.1
theorem RRr_8 {S T : Sc} (h : RR S T) : r8 (S.1 8) := h.2.1.2.2.2.2.2.2.2.2.1
theorem RRr_10 {S T : Sc} (h : RR S T) : zb (S.1 10) := h.2.1.2.2.2.2.2.2.2.2.2.1
theorem RRr_11 {S T : Sc} (h : RR S T) : zb (S.1 11) := h.2.1.2.2.2.2.2.2.2.2.2.2.1
theorem RRr_12 {S T : Sc} (h : RR S T) : zb (S.1 12) := h.2.1.2.2.2.2.2.2.2.2.2.2.2
theorem R_0 {S T : Sc} {v v2 : Int32} (h : RR S T) (e : v = v2) (g : r16 v) : RR (pr S 0 v) (pr T 0 v2) := by
  obtain ⟨⟨e0, e1, e2, e3, e4, e5, e6, e7, e8, e9, e10, e11, e12, e13⟩, ⟨g0, g1, g2, g3, g4, g5, g6, g7, g8, g10, g11, g12⟩, hm, hl⟩ := h
  exact ⟨⟨e, e1, e2, e3, e4, e5, e6, e7, e8, e9, e10, e11, e12, e13⟩, ⟨g, g1, g2, g3, g4, g5, g6, g7, g8, g10, g11, g12⟩, hm, hl⟩
theorem R_1 {S T : Sc} {v v2 : Int32} (h : RR S T) (e : v = v2) (g : r16 v) : RR (pr S 1 v) (pr T 1 v2) := by
  obtain ⟨⟨e0, e1, e2, e3, e4, e5, e6, e7, e8, e9, e10, e11, e12, e13⟩, ⟨g0, g1, g2, g3, g4, g5, g6, g7, g8, g10, g11, g12⟩, hm, hl⟩ := h
  exact ⟨⟨e0, e, e2, e3, e4, e5, e6, e7, e8, e9, e10, e11, e12, e13⟩, ⟨g0, g, g2, g3, g4, g5, g6, g7, g8, g10, g11, g12⟩, hm, hl⟩
theorem R_2 {S T : Sc} {v v2 : Int32} (h : RR S T) (e : v = v2) (g : r16 v) : RR (pr S 2 v) (pr T 2 v2) := by
  obtain ⟨⟨e0, e1, e2, e3, e4, e5, e6, e7, e8, e9, e10, e11, e12, e13⟩, ⟨g0, g1, g2, g3, g4, g5, g6, g7, g8, g10, g11, g12⟩, hm, hl⟩ := h
  exact ⟨⟨e0, e1, e, e3, e4, e5, e6, e7, e8, e9, e10, e11, e12, e13⟩, ⟨g0, g1, g, g3, g4, g5, g6, g7, g8, g10, g11, g12⟩, hm, hl⟩
theorem R_3 {S T : Sc} {v v2 : Int32} (h : RR S T) (e : v = v2) (g : r16 v) : RR (pr S 3 v) (pr T 3 v2) := by
  obtain ⟨⟨e0, e1, e2, e3, e4, e5, e6, e7, e8, e9, e10, e11, e12, e13⟩, ⟨g0, g1, g2, g3, g4, g5, g6, g7, g8, g10, g11, g12⟩, hm, hl⟩ := h
  exact ⟨⟨e0, e1, e2, e, e4, e5, e6, e7, e8, e9, e10, e11, e12, e13⟩, ⟨g0, g1, g2, g, g4, g5, g6, g7, g8, g10, g11, g12⟩, hm, hl⟩
theorem R_4 {S T : Sc} {v v2 : Int32} (h : RR S T) (e : v = v2) (g : r16 v) : RR (pr S 4 v) (pr T 4 v2) := by
  obtain ⟨⟨e0, e1, e2, e3, e4, e5, e6, e7, e8, e9, e10, e11, e12, e13⟩, ⟨g0, g1, g2, g3, g4, g5, g6, g7, g8, g10, g11, g12⟩, hm, hl⟩ := h
  exact ⟨⟨e0, e1, e2, e3, e, e5, e6, e7, e8, e9, e10, e11, e12, e13⟩, ⟨g0, g1, g2, g3, g, g5, g6, g7, g8, g10, g11, g12⟩, hm, hl⟩
theorem R_5 {S T : Sc} {v v2 : Int32} (h : RR S T) (e : v = v2) (g : r8 v) : RR (pr S 5 v) (pr T 5 v2) := by
  obtain ⟨⟨e0, e1, e2, e3, e4, e5, e6, e7, e8, e9, e10, e11, e12, e13⟩, ⟨g0, g1, g2, g3, g4, g5, g6, g7, g8, g10, g11, g12⟩, hm, hl⟩ := h
  exact ⟨⟨e0, e1, e2, e3, e4, e, e6, e7, e8, e9, e10, e11, e12, e13⟩, ⟨g0, g1, g2, g3, g4, g, g6, g7, g8, g10, g11, g12⟩, hm, hl⟩
theorem R_6 {S T : Sc} {v v2 : Int32} (h : RR S T) (e : v = v2) (g : r8 v) : RR (pr S 6 v) (pr T 7 v2) := by
  obtain ⟨⟨e0, e1, e2, e3, e4, e5, e6, e7, e8, e9, e10, e11, e12, e13⟩, ⟨g0, g1, g2, g3, g4, g5, g6, g7, g8, g10, g11, g12⟩, hm, hl⟩ := h
  exact ⟨⟨e0, e1, e2, e3, e4, e5, e, e7, e8, e9, e10, e11, e12, e13⟩, ⟨g0, g1, g2, g3, g4, g5, g, g7, g8, g10, g11, g12⟩, hm, hl⟩
theorem R_7 {S T : Sc} {v v2 : Int32} (h : RR S T) (e : v = v2) (g : r16 v) : RR (pr S 7 v) (pr T 8 v2) := by
  obtain ⟨⟨e0, e1, e2, e3, e4, e5, e6, e7, e8, e9, e10, e11, e12, e13⟩, ⟨g0, g1, g2, g3, g4, g5, g6, g7, g8, g10, g11, g12⟩, hm, hl⟩ := h
  exact ⟨⟨e0, e1, e2, e3, e4, e5, e6, e, e8, e9, e10, e11, e12, e13⟩, ⟨g0, g1, g2, g3, g4, g5, g6, g, g8, g10, g11, g12⟩, hm, hl⟩
theorem R_8 {S T : Sc} {v v2 : Int32} (h : RR S T) (e : v = v2) (g : r8 v) : RR (pr S 8 v) (pr T 6 v2) := by
  obtain ⟨⟨e0, e1, e2, e3, e4, e5, e6, e7, e8, e9, e10, e11, e12, e13⟩, ⟨g0, g1, g2, g3, g4, g5, g6, g7, g8, g10, g11, g12⟩, hm, hl⟩ := h
  exact ⟨⟨e0, e1, e2, e3, e4, e5, e6, e7, e, e9, e10, e11, e12, e13⟩, ⟨g0, g1, g2, g3, g4, g5, g6, g7, g, g10, g11, g12⟩, hm, hl⟩
theorem R_10 {S T : Sc} {v v2 : Int32} (h : RR S T) (e : v = v2) (g : zb v) : RR (pr S 10 v) (pr T 10 v2) := by
  obtain ⟨⟨e0, e1, e2, e3, e4, e5, e6, e7, e8, e9, e10, e11, e12, e13⟩, ⟨g0, g1, g2, g3, g4, g5, g6, g7, g8, g10, g11, g12⟩, hm, hl⟩ := h
  exact ⟨⟨e0, e1, e2, e3, e4, e5, e6, e7, e8, e9, e, e11, e12, e13⟩, ⟨g0, g1, g2, g3, g4, g5, g6, g7, g8, g, g11, g12⟩, hm, hl⟩
theorem R_11 {S T : Sc} {v v2 : Int32} (h : RR S T) (e : v = v2) (g : zb v) : RR (pr S 11 v) (pr T 11 v2) := by
  obtain ⟨⟨e0, e1, e2, e3, e4, e5, e6, e7, e8, e9, e10, e11, e12, e13⟩, ⟨g0, g1, g2, g3, g4, g5, g6, g7, g8, g10, g11, g12⟩, hm, hl⟩ := h
  exact ⟨⟨e0, e1, e2, e3, e4, e5, e6, e7, e8, e9, e10, e, e12, e13⟩, ⟨g0, g1, g2, g3, g4, g5, g6, g7, g8, g10, g, g12⟩, hm, hl⟩
theorem R_12 {S T : Sc} {v v2 : Int32} (h : RR S T) (e : v = v2) (g : zb v) : RR (pr S 12 v) (pr T 9 v2) := by
  obtain ⟨⟨e0, e1, e2, e3, e4, e5, e6, e7, e8, e9, e10, e11, e12, e13⟩, ⟨g0, g1, g2, g3, g4, g5, g6, g7, g8, g10, g11, g12⟩, hm, hl⟩ := h
  exact ⟨⟨e0, e1, e2, e3, e4, e5, e6, e7, e8, e9, e10, e11, e, e13⟩, ⟨g0, g1, g2, g3, g4, g5, g6, g7, g8, g10, g11, g⟩, hm, hl⟩
theorem R_13 {S T : Sc} {v v2 : Int32} (h : RR S T) (e : v = v2) : RR (pr S 13 v) (pr T 12 v2) := by
  obtain ⟨⟨e0, e1, e2, e3, e4, e5, e6, e7, e8, e9, e10, e11, e12, e13⟩, ⟨g0, g1, g2, g3, g4, g5, g6, g7, g8, g10, g11, g12⟩, hm, hl⟩ := h
  exact ⟨⟨e0, e1, e2, e3, e4, e5, e6, e7, e8, e9, e10, e11, e12, e⟩, ⟨g0, g1, g2, g3, g4, g5, g6, g7, g8, g10, g11, g12⟩, hm, hl⟩
theorem R_14 {S T : Sc} {v : Int32} (h : RR S T) : RR S (pr T 14 v) := h
theorem R_15 {S T : Sc} {v : Int32} (h : RR S T) : RR S (pr T 15 v) := h
def WN (w n : Int32) : Prop := (w = 1 ∧ n = 0) ∨ (w = 0 ∧ n = 1)
theorem WN_p {S T : Sc} (e : S.1 8 = T.1 6) (f : Int32) : WN (if ((S.1 8) &&& f) = (0 : Int32) then (1 : Int32) else (0 : Int32)) (f_Mdl_is T f) := by
  unfold f_Mdl_is
  rw [e]
  by_cases z : (T.1 6 &&& f) = 0
  · rw [if_pos z, if_pos z]; exact Or.inl ⟨rfl, rfl⟩
  · rw [if_neg z, if_neg z]; exact Or.inr ⟨rfl, rfl⟩
theorem WN_A {S T : Sc} (h : RR S T) : WN (f_Reg_wideA S) (f_Mdl_is T 32) := WN_p (RRe_8 h) 32
theorem WN_I {S T : Sc} (h : RR S T) : WN (f_Reg_wideIndex S) (f_Mdl_is T 16) := WN_p (RRe_8 h) 16
theorem RR_pm {S T : Sc} (h : RR S T) (k : Nat) {v v2 : Int32} (e : v &&& 255 = v2) : RR (pm S k v) (pm T k v2) := by
  refine ⟨h.1, h.2.1, fun j hj => ?_, h.2.2.2⟩
  show upd S.2.1 k v j &&& 255 = upd T.2.1 k v2 j
  unfold upd
  by_cases z : j = k
  · rw [if_pos z, if_pos z]; exact e
  · rw [if_neg z, if_neg z]; exact h.2.2.1 j hj
theorem and7_n (x : Int32) : (x &&& 7).toNatClampNeg = x.toBitVec.toNat % 8 := by
  have e : x &&& 7 = nI (x.toBitVec.toNat % 2 ^ 3) := by
    rw [← nx_pm, ← x32 x]; rfl
  rw [e, nI_clamp (by omega)]
theorem inc_n (x : Int32) : (x + 1).toBitVec.toNat = (x.toBitVec.toNat + 1) % 4294967296 := by
  rw [Int32.toBitVec_add, BitVec.toNat_add]; rfl
theorem s_touch {S T : Sc} (h : RR S T) (v : Int32) : RR (pr (pl S ((S.1 9 &&& (7 : Int32)).toNatClampNeg) v) 9 (S.1 9 + (1 : Int32))) (f_Mdl_touch T v) := by
  have hl := h.2.2.2
  obtain ⟨⟨e0, e1, e2, e3, e4, e5, e6, e7, e8, e9, e10, e11, e12, e13⟩, g, hm, -⟩ := h
  refine ⟨⟨e0, e1, e2, e3, e4, e5, e6, e7, e8, by show S.1 9 + 1 = T.1 13 + 1; rw [e9], e10, e11, e12, e13⟩, g, hm, fun k hk => ?_⟩
  show upd S.2.2 ((S.1 9 &&& (7 : Int32)).toNatClampNeg) v (((S.1 9 + (1 : Int32)).toBitVec.toNat + 4294967295 - k) % 8) = (f_Mdl_touch T v).2.2 k
  rw [and7_n, inc_n]
  generalize hn : (S.1 9).toBitVec.toNat = n at hl
  unfold upd
  match k, hk with
  | 0, _ => rw [if_pos (by omega)]; rfl
  | 1, _ => rw [if_neg (by omega), show ((n + 1) % 4294967296 + 4294967295 - 1) % 8 = (n + 4294967295 - 0) % 8 by omega]; exact hl 0 (by omega)
  | 2, _ => rw [if_neg (by omega), show ((n + 1) % 4294967296 + 4294967295 - 2) % 8 = (n + 4294967295 - 1) % 8 by omega]; exact hl 1 (by omega)
  | 3, _ => rw [if_neg (by omega), show ((n + 1) % 4294967296 + 4294967295 - 3) % 8 = (n + 4294967295 - 2) % 8 by omega]; exact hl 2 (by omega)
  | 4, _ => rw [if_neg (by omega), show ((n + 1) % 4294967296 + 4294967295 - 4) % 8 = (n + 4294967295 - 3) % 8 by omega]; exact hl 3 (by omega)
  | 5, _ => rw [if_neg (by omega), show ((n + 1) % 4294967296 + 4294967295 - 5) % 8 = (n + 4294967295 - 4) % 8 by omega]; exact hl 4 (by omega)
  | 6, _ => rw [if_neg (by omega), show ((n + 1) % 4294967296 + 4294967295 - 6) % 8 = (n + 4294967295 - 5) % 8 by omega]; exact hl 5 (by omega)
  | 7, _ => rw [if_neg (by omega), show ((n + 1) % 4294967296 + 4294967295 - 7) % 8 = (n + 4294967295 - 6) % 8 by omega]; exact hl 6 (by omega)
  | k + 8, h => exact absurd h (by omega)
theorem c_cell (x : Int32) : f_Bus_cellOf x = f_Mdl_cell x := cell_c x
theorem c_cell0 (x : Int32) : f_Bus_cellOf (f_Bus_bank0Place x) = f_Mdl_cell (x &&& 65535) := by
  rw [← c_cell]
  show (((((16777216 : Int32) ||| (x &&& 65535)) >>> ((7 : Int32) &&& 31)) &&& 512) ||| (((16777216 : Int32) ||| (x &&& 65535)) &&& 511)) = ((((x &&& 65535) >>> ((7 : Int32) &&& 31)) &&& 512) ||| ((x &&& 65535) &&& 511))
  have hb : bt (x &&& 65535) 16 = false := r16_bt (m16 x) (Nat.le_refl _)
  rw [t_512, t_512, mk_16, hb, mk_511, Int32.and_assoc]; rfl
theorem lt_vp {x : Int32} {n : Nat} (h : vp_in x n) : x.toNatClampNeg < n := Nat.not_le.mp fun q => h (Or.inr q)
theorem s_read {S T : Sc} {c q : Int32} (h : RR S T) (hc : f_Bus_cellOf c = f_Mdl_cell q) : (f_Bus_readByte S c).1 = (f_Mdl_read T q).1 ∧ r8 (f_Bus_readByte S c).1 ∧ RR (f_Bus_readByte S c).2 (f_Mdl_read T q).2 := by
  refine ⟨?_, m8 _, ?_⟩
  · show S.2.1 (f_Bus_cellOf c).toNatClampNeg &&& 255 = T.2.1 (f_Mdl_cell q).toNatClampNeg
    rw [← hc]
    exact h.2.2.1 _ (lt_vp (in_cellOf c))
  · show RR (pr (pl S ((S.1 9 &&& (7 : Int32)).toNatClampNeg) (f_Bus_cellOf c)) 9 (S.1 9 + (1 : Int32))) (f_Mdl_touch T (f_Mdl_cell q))
    rw [hc]
    exact s_touch h _
theorem nar_255 (b : Int32) : vp_nar .byte (b.toInt8.toInt32) &&& 255 = b &&& 255 := by rw [vp_nar_byte, bp_b, bp_b]
theorem s_write {S T : Sc} {c q b b2 : Int32} (h : RR S T) (hc : f_Bus_cellOf c = f_Mdl_cell q) (e : b &&& 255 = b2 &&& 255) : RR (f_Bus_writeByte S c b) (f_Mdl_write T q b2) := by
  show RR (pm (pr (pl S ((S.1 9 &&& (7 : Int32)).toNatClampNeg) (f_Bus_cellOf c + 1024)) 9 (S.1 9 + (1 : Int32))) (f_Bus_cellOf c).toNatClampNeg (vp_nar .byte (b.toInt8.toInt32))) (pm (f_Mdl_touch T (f_Mdl_cell q + 1024)) (f_Mdl_cell q).toNatClampNeg (b2 &&& 255))
  rw [hc]
  exact RR_pm (s_touch h _) _ ((nar_255 b).trans e)
def PR (c pl nr : Int32) : Prop := (nr = 0 ∧ c = pl ∧ r24 pl) ∨ (nr = 1 ∧ c = f_Bus_bank0Place pl ∧ r16 pl)
theorem PR_cell {c pl nr : Int32} (h : PR c pl nr) : f_Bus_cellOf c = f_Mdl_cell pl := by
  rcases h with ⟨-, rfl, -⟩ | ⟨-, rfl, h⟩
  · exact c_cell _
  · rw [c_cell0, h]
theorem mk_add {y : Int32} (h : r16 y) : (((16777216 : Int32) ||| y) + 1) &&& 65535 = (y + 1) &&& 65535 := by
  obtain ⟨n, hn, rfl⟩ := r16_nI h
  have e : (16777216 : Int32) ||| nI n = nI (16777216 + n) := by
    rw [← nI_add, add_or]; rfl
    show nI 16777216 &&& nI n = 0
    apply b_ext
    intro i hi
    rw [b_and, b_0]
    by_cases z : i < 16
    · have := b_mk i hi
      rw [show nI 16777216 = (16777216 : Int32) from rfl, this, decide_eq_false (by omega), Bool.false_and]
    · rw [r16_bt h (by omega), Bool.and_false]
  rw [e, nI_1, nI_1, nx_mod, nx_mod]
  congr 1
  omega
theorem PR_after {c pl nr : Int32} (h : PR c pl nr) : PR (f_Bus_placeAfter c) (f_Mdl_after pl nr) nr := by
  rcases h with ⟨rfl, rfl, h⟩ | ⟨rfl, rfl, h⟩
  · refine Or.inl ⟨rfl, ?_, m24 _⟩
    have z : (c &&& (16777216 : Int32)) = 0 := by
      rw [← h, Int32.and_assoc]
      exact Int32.and_zero
    unfold f_Bus_placeAfter
    rw [if_pos z]; rfl
  · have e : f_Mdl_after pl 1 = (pl + 1) &&& 65535 := by
      show (pl &&& (16711680 : Int32)) ||| ((pl + 1) &&& 65535) = _
      rw [← h, Int32.and_assoc]
      show (pl &&& 0) ||| _ = _
      rw [Int32.and_zero, Int32.zero_or]
    refine Or.inr ⟨rfl, ?_, by rw [e]; exact m16 _⟩
    unfold f_Bus_placeAfter
    rw [if_neg (show ¬ (f_Bus_bank0Place pl &&& (16777216 : Int32)) = 0 from mk_24 pl), e]
    show (16777216 : Int32) ||| ((((16777216 : Int32) ||| (pl &&& 65535)) + 1) &&& 65535) = (16777216 : Int32) ||| (((pl + 1) &&& 65535) &&& 65535)
    rw [h, mk_add h, m16]
theorem PR_near {x : Int32} (h : r16 x) : PR (f_Bus_bank0Place x) x 1 := Or.inr ⟨rfl, rfl, h⟩
theorem PR_b0 (x : Int32) : PR (f_Bus_bank0Place x) (x &&& 65535) 1 := Or.inr ⟨rfl, by show (16777216 : Int32) ||| (x &&& 65535) = (16777216 : Int32) ||| ((x &&& 65535) &&& 65535); rw [m16], m16 x⟩
theorem s_rw {S T : Sc} {c pl nr : Int32} (h : RR S T) (hp : PR c pl nr) : (f_Bus_readWord S c).1 = (f_Mdl_readWord T pl nr).1 ∧ r16 (f_Bus_readWord S c).1 ∧ RR (f_Bus_readWord S c).2 (f_Mdl_readWord T pl nr).2 := by
  obtain ⟨a1, a2, a3⟩ := s_read h (PR_cell hp)
  obtain ⟨b1, b2, b3⟩ := s_read a3 (PR_cell (PR_after hp))
  refine ⟨?_, w16 a2 b2, b3⟩
  show _ ||| _ <<< _ = _ ||| _ <<< _
  rw [a1, b1]
theorem s_next {S T : Sc} (h : RR S T) : (f_Opd_nextByte S).1 = (f_Mdl_next T).1 ∧ r8 (f_Opd_nextByte S).1 ∧ RR (f_Opd_nextByte S).2 (f_Mdl_next T).2 := by
  have e6 := RRe_6 h
  have e7 := RRe_7 h
  refine ⟨?_, m8 _, R_7 h (by rw [e7]) (m16 _)⟩
  show S.2.1 ((512 * (S.1 6 &&& (1 : Int32))) + (S.1 7 &&& (511 : Int32))).toNatClampNeg &&& 255 = T.2.1 (f_Mdl_cell ((T.1 7 <<< ((16 : Int32) &&& 31)) ||| T.1 8)).toNatClampNeg
  have e : (512 * (S.1 6 &&& (1 : Int32))) + (S.1 7 &&& (511 : Int32)) = f_Mdl_cell ((T.1 7 <<< ((16 : Int32) &&& 31)) ||| T.1 8) := by
    show _ = (512 * ((((T.1 7 <<< ((16 : Int32) &&& 31)) ||| T.1 8) >>> ((16 : Int32) &&& 31)) &&& 1)) + (((T.1 7 <<< ((16 : Int32) &&& 31)) ||| T.1 8) &&& 511)
    rw [t_1, pb_511, bt_pb (by rw [← e7]; exact RRr_7 h), ← e6, ← e7, t_b1]
  rw [e]
  exact h.2.2.1 _ (lt_vp (by rw [← e]; exact in_prog _ _))
theorem s_nw {S T : Sc} (h : RR S T) : (f_Opd_nextWord S).1 = (f_Mdl_nextWord T).1 ∧ r16 (f_Opd_nextWord S).1 ∧ RR (f_Opd_nextWord S).2 (f_Mdl_nextWord T).2 := by
  obtain ⟨a1, a2, a3⟩ := s_next h
  obtain ⟨b1, b2, b3⟩ := s_next a3
  refine ⟨?_, w16 a2 b2, b3⟩
  show _ ||| _ <<< _ = _ ||| _ <<< _
  rw [a1, b1]
theorem s_nl {S T : Sc} (h : RR S T) : (f_Opd_nextLong S).1 = (f_Mdl_nextLong T).1 ∧ r24 (f_Opd_nextLong S).1 ∧ RR (f_Opd_nextLong S).2 (f_Mdl_nextLong T).2 := by
  obtain ⟨a1, a2, a3⟩ := s_nw h
  obtain ⟨b1, b2, b3⟩ := s_next a3
  refine ⟨?_, w24 a2 b2, b3⟩
  show (f_Opd_nextWord S).1 ||| (f_Opd_nextByte (f_Opd_nextWord S).2).1 <<< ((16 : Int32) &&& 31) = (f_Mdl_nextWord T).1 ||| (f_Mdl_next (f_Mdl_nextWord T).2).1 <<< ((16 : Int32) &&& 31)
  rw [a1, b1]
theorem s_nv {S T : Sc} {w n : Int32} (h : RR S T) (hw : WN w n) : (f_Opd_nextValue S w).1 = (f_Mdl_immediate T n).1 ∧ r16 (f_Opd_nextValue S w).1 ∧ RR (f_Opd_nextValue S w).2 (f_Mdl_immediate T n).2 := by
  rcases hw with ⟨rfl, rfl⟩ | ⟨rfl, rfl⟩
  · exact s_nw h
  · exact ⟨(s_next h).1, r8_16 (s_next h).2.1, (s_next h).2.2⟩
theorem s_push {S T : Sc} {b b2 : Int32} (h : RR S T) (e : b &&& 255 = b2 &&& 255) : RR (f_Stk_pushByte S b) (f_Mdl_push T b2) := by
  have e3 := RRe_3 h
  have g3 := RRr_3 h
  refine R_3 (s_write h ?_ e) (by show (S.1 3 - 1) &&& 65535 = (T.1 3 - 1) &&& 65535; rw [e3]) (m16 _)
  rw [← e3, c_cell0, g3]
theorem s_pushW {S T : Sc} {v : Int32} (h : RR S T) : RR (f_Stk_pushWord S v) (f_Mdl_pushWord T v) := s_push (s_push h rfl) rfl
theorem s_pull {S T : Sc} (h : RR S T) : (f_Stk_pullByte S).1 = (f_Mdl_pull T).1 ∧ r8 (f_Stk_pullByte S).1 ∧ RR (f_Stk_pullByte S).2 (f_Mdl_pull T).2 := by
  have e3 := RRe_3 h
  have h2 : RR (pr S 3 ((S.1 3 + 1) &&& 65535)) (pr T 3 ((T.1 3 + 1) &&& 65535)) := R_3 h (by rw [e3]) (m16 _)
  exact s_read h2 (by rw [c_cell0, m16, e3])
theorem s_pullW {S T : Sc} (h : RR S T) : (f_Stk_pullWord S).1 = (f_Mdl_pullWord T).1 ∧ r16 (f_Stk_pullWord S).1 ∧ RR (f_Stk_pullWord S).2 (f_Mdl_pullWord T).2 := by
  obtain ⟨a1, a2, a3⟩ := s_pull h
  obtain ⟨b1, b2, b3⟩ := s_pull a3
  refine ⟨?_, w16 a2 b2, b3⟩
  show (f_Stk_pullByte S).1 ||| (f_Stk_pullByte (f_Stk_pullByte S).2).1 <<< ((8 : Int32) &&& 31) = (f_Mdl_pull T).1 ||| (f_Mdl_pull (f_Mdl_pull T).2).1 <<< ((8 : Int32) &&& 31)
  rw [a1, b1]
theorem s_load {S T : Sc} {c w n : Int32} (h : RR S T) (hp : PR c (T.1 14) (T.1 15)) (hw : WN w n) : (f_Bus_readValue S c w).1 = (f_Mdl_load T n).1 ∧ r16 (f_Bus_readValue S c w).1 ∧ RR (f_Bus_readValue S c w).2 (f_Mdl_load T n).2 := by
  rcases hw with ⟨rfl, rfl⟩ | ⟨rfl, rfl⟩
  · exact s_rw h hp
  · exact ⟨(s_read h (PR_cell hp)).1, r8_16 (s_read h (PR_cell hp)).2.1, (s_read h (PR_cell hp)).2.2⟩
theorem s_store {S T : Sc} {c v v2 w n : Int32} (h : RR S T) (hp : PR c (T.1 14) (T.1 15)) (hw : WN w n) (e : v &&& 255 = v2 &&& 255) (e2 : n = 0 → v = v2) : RR (f_Bus_writeValue S c v w) (f_Mdl_store T v2 n) := by
  rcases hw with ⟨rfl, rfl⟩ | ⟨rfl, rfl⟩
  · have e2 := e2 rfl
    subst e2
    exact s_write (s_write h (PR_cell hp) rfl) (PR_cell (PR_after hp)) rfl
  · exact s_write h (PR_cell hp) e
