theorem p_poke {S T : Sc} (h : RR S T) (x1 x2 x3 : Int32) : (f_Wc_poke S x1 x2 x3).1 = (f_Mdl_poke T x1 x2 x3).1 ∧ RR (f_Wc_poke S x1 x2 x3).2 (f_Mdl_poke T x1 x2 x3).2 := by
  unfold f_Wc_poke f_Mdl_poke
  by_cases c0 : x3 < (1 : Int32)
  · rw [if_pos c0, if_pos c0]; exact ⟨rfl, h⟩
  rw [if_neg c0, if_neg c0]
  by_cases c1 : (4 : Int32) < x3
  · rw [if_pos c1, if_pos c1]; exact ⟨rfl, h⟩
  rw [if_neg c1, if_neg c1]
  by_cases c2 : x1 < (0 : Int32)
  · rw [if_pos c2, if_pos c2]; exact ⟨rfl, h⟩
  rw [if_neg c2, if_neg c2]
  by_cases c3 : x1 ≤ ((1024 : Int32) - x3)
  rotate_left
  · rw [if_neg c3, if_neg c3]; exact ⟨rfl, h⟩
  rw [if_pos c3, if_pos c3]
  by_cases d0 : x3 ≤ (0 : Int32)
  · rw [if_pos d0, if_pos d0]; exact ⟨rfl, h⟩
  rw [if_neg d0, if_neg d0]
  by_cases d1 : x3 ≤ (1 : Int32)
  · rw [if_pos d1, if_pos d1]; exact ⟨rfl, RR_pm h _ (nar_255 _)⟩
  rw [if_neg d1, if_neg d1]
  by_cases d2 : x3 ≤ (2 : Int32)
  · rw [if_pos d2, if_pos d2]; exact ⟨rfl, RR_pm (RR_pm h _ (nar_255 _)) _ (nar_255 _)⟩
  rw [if_neg d2, if_neg d2]
  by_cases d3 : x3 ≤ (3 : Int32)
  · rw [if_pos d3, if_pos d3]; exact ⟨rfl, RR_pm (RR_pm (RR_pm h _ (nar_255 _)) _ (nar_255 _)) _ (nar_255 _)⟩
  rw [if_neg d3, if_neg d3]
  exact ⟨rfl, RR_pm (RR_pm (RR_pm (RR_pm h _ (nar_255 _)) _ (nar_255 _)) _ (nar_255 _)) _ (nar_255 _)⟩
theorem p_peek {S T : Sc} (h : RR S T) (x : Int32) : f_Wc_peek S x = f_Mdl_peek T x := by
  unfold f_Wc_peek f_Mdl_peek
  by_cases a : x < (0 : Int32)
  · rw [if_pos a, if_pos a]
  · rw [if_neg a, if_neg a]
    by_cases b : x < (1024 : Int32)
    · rw [if_pos b, if_neg (Int32.not_le.mpr b)]
      exact h.2.2.1 _ (lt_vp (in_peek2 a b))
    · rw [if_neg b, if_pos (Int32.not_lt.mp b)]
theorem u8_of {x : Int32} (h1 : ¬ x < (0 : Int32)) (h2 : ¬ (255 : Int32) < x) : r8 x := by
  obtain ⟨i, hi, rfl⟩ := nI_of h1
  rw [show (255 : Int32) = nI 255 from rfl, nI_ltI (by omega) hi] at h2
  show nI i &&& nI (2 ^ 8 - 1) = nI i
  rw [nx_pm, Nat.mod_eq_of_lt (by omega)]
theorem u16_of {x : Int32} (h1 : ¬ x < (0 : Int32)) (h2 : x ≤ (65535 : Int32)) : r16 x := by
  obtain ⟨i, hi, rfl⟩ := nI_of h1
  rw [show (65535 : Int32) = nI 65535 from rfl, nI_leI hi (by omega)] at h2
  show nI i &&& nI (2 ^ 16 - 1) = nI i
  rw [nx_pm, Nat.mod_eq_of_lt (by omega)]
theorem p_start {S T : Sc} (h : RR S T) (x1 x2 : Int32) : (f_Wc_start S x1 x2).1 = (f_Mdl_start T x1 x2).1 ∧ RR (f_Wc_start S x1 x2).2 (f_Mdl_start T x1 x2).2 := by
  unfold f_Wc_start f_Mdl_start
  by_cases a : x1 < (0 : Int32)
  · rw [if_pos a, if_pos a]; exact ⟨rfl, h⟩
  rw [if_neg a, if_neg a]
  by_cases b : (255 : Int32) < x1
  · rw [if_pos b, if_pos b]; exact ⟨rfl, h⟩
  rw [if_neg b, if_neg b]
  by_cases c : x2 < (0 : Int32)
  · rw [if_pos c, if_pos c]; exact ⟨rfl, h⟩
  rw [if_neg c, if_neg c]
  by_cases d : x2 ≤ (65535 : Int32)
  · rw [if_pos d, if_pos d]
    exact ⟨rfl, R_12 (R_7 (R_6 h rfl (u8_of a b)) rfl (u16_of c d)) rfl (Or.inl rfl)⟩
  · rw [if_neg d, if_neg d]; exact ⟨rfl, h⟩
theorem p_cut {S T : Sc} (h : RR S T) (x : Int32) : x &&& f_Reg_indexMask S = f_Mdl_cut x (f_Mdl_is T 16) := by
  show x &&& f_Reg_maskOf (f_Reg_wideIndex S) = _
  rcases WN_I h with ⟨p1, p2⟩ | ⟨p1, p2⟩
  · rw [p1, p2]; rfl
  · rw [p1, p2]; rfl
theorem p_set {S T : Sc} (h : RR S T) (x1 x2 : Int32) : (f_Wc_set S x1 x2).1 = (f_Mdl_set T x1 x2).1 ∧ RR (f_Wc_set S x1 x2).2 (f_Mdl_set T x1 x2).2 := by
  unfold f_Wc_set f_Mdl_set
  by_cases c0 : x1 = (0 : Int32)
  · rw [if_pos c0, if_pos c0]; exact ⟨rfl, R_0 h rfl (m16 _)⟩
  rw [if_neg c0, if_neg c0]
  by_cases c1 : x1 = (1 : Int32)
  · rw [if_pos c1, if_pos c1]; exact ⟨rfl, R_1 h (p_cut h _) (mask_r16 _)⟩
  rw [if_neg c1, if_neg c1]
  by_cases c2 : x1 = (2 : Int32)
  · rw [if_pos c2, if_pos c2]; exact ⟨rfl, R_2 h (p_cut h _) (mask_r16 _)⟩
  rw [if_neg c2, if_neg c2]
  by_cases c3 : x1 = (3 : Int32)
  · rw [if_pos c3, if_pos c3]; exact ⟨rfl, R_3 h rfl (m16 _)⟩
  rw [if_neg c3, if_neg c3]
  by_cases c4 : x1 = (4 : Int32)
  · rw [if_pos c4, if_pos c4]; exact ⟨rfl, R_4 h rfl (m16 _)⟩
  rw [if_neg c4, if_neg c4]
  by_cases c5 : x1 = (5 : Int32)
  · rw [if_pos c5, if_pos c5]; exact ⟨rfl, R_5 h rfl (m8 _)⟩
  rw [if_neg c5, if_neg c5]
  by_cases c6 : x1 = (6 : Int32)
  · rw [if_pos c6, if_pos c6]; exact ⟨rfl, s_setP h rfl⟩
  rw [if_neg c6, if_neg c6]
  exact ⟨rfl, h⟩
theorem p_register {S T : Sc} (h : RR S T) (x : Int32) : f_Wc_register S x = f_Mdl_register T x := by
  unfold f_Wc_register f_Mdl_register
  rw [RRe_0 h, RRe_1 h, RRe_2 h, RRe_3 h, RRe_4 h, RRe_5 h, RRe_6 h, RRe_7 h, RRe_8 h]
theorem p_interrupt {S T : Sc} (h : RR S T) : (f_Wc_interrupt S).1 = (f_Mdl_interrupt T).1 ∧ RR (f_Wc_interrupt S).2 (f_Mdl_interrupt T).2 := by
  unfold f_Wc_interrupt f_Mdl_interrupt
  have e := RRe_10 h
  rw [← e]
  by_cases c : S.1 10 = (0 : Int32)
  · rw [if_pos c, if_pos c]; exact ⟨rfl, R_10 h rfl (Or.inr rfl)⟩
  · rw [if_neg c, if_neg c]
    refine ⟨rfl, ?_⟩
    have z : S.1 10 = (1 : Int32) := (RRr_10 h).resolve_left c
    obtain ⟨⟨e0, e1, e2, e3, e4, e5, e6, e7, e8, e9, e10, e11, e12, e13⟩, g, hm, hl⟩ := h
    exact ⟨⟨e0, e1, e2, e3, e4, e5, e6, e7, e8, e9, z, e11, e12, e13⟩, g, hm, hl⟩
theorem p_line {S T : Sc} (h : RR S T) (x : Int32) (hx : zb x) : RR (f_Wc_line S x) (f_Mdl_line T x) := R_11 h rfl hx
theorem p_touched {S T : Sc} (h : RR S T) (x : Int32) : f_Wc_touched S x = f_Mdl_touched T x := by
  unfold f_Wc_touched f_Mdl_touched
  have e9 := RRe_9 h
  by_cases a : x < (0 : Int32)
  · rw [if_pos a, if_pos a]
  rw [if_neg a, if_neg a]
  by_cases b : (8 : Int32) ≤ x
  · rw [if_pos b, if_pos b]
  rw [if_neg b, if_neg b, ← e9]
  by_cases c : x < S.1 9
  · rw [if_pos c, if_neg (Int32.not_le.mpr c)]
    obtain ⟨k, hk, rfl⟩ := nI_of a
    rw [show (8 : Int32) = nI 8 from rfl, nI_leI (by omega) hk] at b
    show S.2.2 (((S.1 9 - 1) - nI k) &&& 7).toNatClampNeg = T.2.2 (nI k).toNatClampNeg
    have e1 : (1 : Int32).toBitVec.toNat = 1 := rfl
    have e2 : (nI k).toBitVec.toNat = k := by
      show (BitVec.ofNat 32 k).toNat = k
      rw [BitVec.toNat_ofNat]
      omega
    have hn := (S.1 9).toBitVec.isLt
    have e3 : ((S.1 9 - 1) - nI k).toBitVec.toNat % 8 = ((S.1 9).toBitVec.toNat + 4294967295 - k) % 8 := by
      rw [Int32.toBitVec_sub, Int32.toBitVec_sub, BitVec.toNat_sub, BitVec.toNat_sub, e1, e2]
      generalize (S.1 9).toBitVec.toNat = n at hn ⊢
      show (4294967296 - k + (4294967296 - 1 + n) % 4294967296) % 4294967296 % 8 = _
      have hn : n < 4294967296 := hn
      omega
    rw [and7_n, nI_clamp hk, ← h.2.2.2 k (by omega), e3]
  · rw [if_neg c, if_pos (Int32.not_lt.mp c)]
theorem p_R (n : Int32) : ∀ (f : Nat) (k : Int32) {S T : Sc}, RR S T → (cR n f k S).1 = (mR n f k T).1 ∧ RR (cR n f k S).2 (mR n f k T).2
  | 0, _, _, _, h => ⟨rfl, h⟩
  | f + 1, k, S, T, h => by
    show (if n ≤ k then (k, S) else (if S.1 12 = (0 : Int32) then cR n f (k + 1) (f_Prc_makeStep S) else (k, S))).1 = (if n ≤ k then (k, T) else (if T.1 9 = (0 : Int32) then mR n f (k + 1) (f_Mdl_step T) else (k, T))).1 ∧ RR (if n ≤ k then (k, S) else (if S.1 12 = (0 : Int32) then cR n f (k + 1) (f_Prc_makeStep S) else (k, S))).2 (if n ≤ k then (k, T) else (if T.1 9 = (0 : Int32) then mR n f (k + 1) (f_Mdl_step T) else (k, T))).2
    rw [← RRe_12 h]
    by_cases a : n ≤ k
    · rw [if_pos a, if_pos a]; exact ⟨rfl, h⟩
    · rw [if_neg a, if_neg a]
      by_cases b : S.1 12 = (0 : Int32)
      · rw [if_pos b, if_pos b]; exact p_R n f (k + 1) (s_step h b)
      · rw [if_neg b, if_neg b]; exact ⟨rfl, h⟩
theorem p_run {S T : Sc} (h : RR S T) (n : Int32) : (f_Wc_run S n).1 = (f_Mdl_run T n).1 ∧ RR (f_Wc_run S n).2 (f_Mdl_run T n).2 := by
  unfold f_Wc_run f_Mdl_run
  by_cases a : n < (0 : Int32)
  · rw [if_pos a, if_pos a]; exact ⟨rfl, h⟩
  rw [if_neg a, if_neg a]
  by_cases b : n ≤ (60 : Int32)
  · rw [if_pos b, if_pos b]; exact p_R n 61 (nI 0) h
  · rw [if_neg b, if_neg b]; exact ⟨rfl, h⟩
