theorem pr_pr (S : Sc) (k : Nat) (u v : Int32) : pr (pr S k u) k v = pr S k v := by
  have e : upd (upd S.1 k u) k v = upd S.1 k v := by
    funext j
    unfold upd
    by_cases h : j = k
    · rw [if_pos h, if_pos h]
    · rw [if_neg h, if_neg h, if_neg h]
  show (upd (upd S.1 k u) k v, S.2) = (upd S.1 k v, S.2)
  rw [e]
theorem pr_comm (S : Sc) {j k : Nat} (hn : j ≠ k) (u v : Int32) : pr (pr S j u) k v = pr (pr S k v) j u := by
  have e : upd (upd S.1 j u) k v = upd (upd S.1 k v) j u := by
    funext i
    unfold upd
    by_cases h : i = k
    · rw [if_pos h, if_neg (fun q => hn (q.symm.trans h)), if_pos h]
    · rw [if_neg h]
      by_cases h2 : i = j
      · rw [if_pos h2, if_pos h2]
      · rw [if_neg h2, if_neg h2, if_neg h]
  show (upd (upd S.1 j u) k v, S.2) = (upd (upd S.1 k v) j u, S.2)
  rw [e]
theorem r8_and {x : Int32} (h : r8 x) (y : Int32) : r8 (x &&& y) := bt_r8 fun i _ hi => by rw [b_and, r8_bt h hi, Bool.false_and]
theorem r8_or {x y : Int32} (h : r8 x) (h2 : r8 y) : r8 (x ||| y) := bt_r8 fun i _ hi => by rw [b_or, r8_bt h hi, r8_bt h2 hi]; rfl
theorem r16_and {x : Int32} (h : r16 x) (y : Int32) : r16 (x &&& y) := bt_r16 fun i _ hi => by rw [b_and, r16_bt h hi, Bool.false_and]
theorem r16_or {x y : Int32} (h : r16 x) (h2 : r16 y) : r16 (x ||| y) := bt_r16 fun i _ hi => by rw [b_or, r16_bt h hi, r16_bt h2 hi]; rfl
theorem s_flag {S T : Sc} (h : RR S T) (f b : Int32) (hf : r8 f) : RR (f_Reg_putFlag S f b) (f_Mdl_flag T f b) := by
  unfold f_Reg_putFlag f_Mdl_flag
  by_cases z : b = 0
  · rw [if_pos z, if_pos z]; exact R_8 h (by rw [RRe_8 h]) (r8_and (RRr_8 h) _)
  · rw [if_neg z, if_neg z]; exact R_8 h (by rw [RRe_8 h]) (r8_or (RRr_8 h) hf)
theorem fl_00 : ∀ k, k < 256 → (((nI k &&& (-131 : Int32)) ||| (0 : Int32)) ||| (0 : Int32)) = ((nI k &&& ((128 : Int32) ^^^ (-1 : Int32))) &&& ((2 : Int32) ^^^ (-1 : Int32))) := by decide +kernel
theorem sh_00 {S T : Sc} (h : RR S T) : RR (pr S 8 (((S.1 8 &&& (-131 : Int32)) ||| (0 : Int32)) ||| (0 : Int32))) (f_Mdl_flag (f_Mdl_flag T 128 0) 2 0) := by
  obtain ⟨k, hk, ep⟩ := r8_nI (RRr_8 h)
  have e := RRe_8 h
  show RR _ (pr (pr T 6 (T.1 6 &&& ((128 : Int32) ^^^ (-1 : Int32)))) 6 ((T.1 6 &&& ((128 : Int32) ^^^ (-1 : Int32))) &&& ((2 : Int32) ^^^ (-1 : Int32))))
  rw [pr_pr]
  exact R_8 h (by rw [← e, ep]; exact fl_00 k hk) (r8_or (r8_or (r8_and (RRr_8 h) _) (by decide)) (by decide))
theorem fl_01 : ∀ k, k < 256 → (((nI k &&& (-131 : Int32)) ||| (0 : Int32)) ||| (2 : Int32)) = ((nI k &&& ((128 : Int32) ^^^ (-1 : Int32))) ||| (2 : Int32)) := by decide +kernel
theorem sh_01 {S T : Sc} (h : RR S T) : RR (pr S 8 (((S.1 8 &&& (-131 : Int32)) ||| (0 : Int32)) ||| (2 : Int32))) (f_Mdl_flag (f_Mdl_flag T 128 0) 2 1) := by
  obtain ⟨k, hk, ep⟩ := r8_nI (RRr_8 h)
  have e := RRe_8 h
  show RR _ (pr (pr T 6 (T.1 6 &&& ((128 : Int32) ^^^ (-1 : Int32)))) 6 ((T.1 6 &&& ((128 : Int32) ^^^ (-1 : Int32))) ||| (2 : Int32)))
  rw [pr_pr]
  exact R_8 h (by rw [← e, ep]; exact fl_01 k hk) (r8_or (r8_or (r8_and (RRr_8 h) _) (by decide)) (by decide))
theorem fl_10 : ∀ k, k < 256 → (((nI k &&& (-131 : Int32)) ||| (128 : Int32)) ||| (0 : Int32)) = ((nI k ||| (128 : Int32)) &&& ((2 : Int32) ^^^ (-1 : Int32))) := by decide +kernel
theorem sh_10 {S T : Sc} (h : RR S T) : RR (pr S 8 (((S.1 8 &&& (-131 : Int32)) ||| (128 : Int32)) ||| (0 : Int32))) (f_Mdl_flag (f_Mdl_flag T 128 1) 2 0) := by
  obtain ⟨k, hk, ep⟩ := r8_nI (RRr_8 h)
  have e := RRe_8 h
  show RR _ (pr (pr T 6 (T.1 6 ||| (128 : Int32))) 6 ((T.1 6 ||| (128 : Int32)) &&& ((2 : Int32) ^^^ (-1 : Int32))))
  rw [pr_pr]
  exact R_8 h (by rw [← e, ep]; exact fl_10 k hk) (r8_or (r8_or (r8_and (RRr_8 h) _) (by decide)) (by decide))
theorem fl_11 : ∀ k, k < 256 → (((nI k &&& (-131 : Int32)) ||| (128 : Int32)) ||| (2 : Int32)) = ((nI k ||| (128 : Int32)) ||| (2 : Int32)) := by decide +kernel
theorem sh_11 {S T : Sc} (h : RR S T) : RR (pr S 8 (((S.1 8 &&& (-131 : Int32)) ||| (128 : Int32)) ||| (2 : Int32))) (f_Mdl_flag (f_Mdl_flag T 128 1) 2 1) := by
  obtain ⟨k, hk, ep⟩ := r8_nI (RRr_8 h)
  have e := RRe_8 h
  show RR _ (pr (pr T 6 (T.1 6 ||| (128 : Int32))) 6 ((T.1 6 ||| (128 : Int32)) ||| (2 : Int32)))
  rw [pr_pr]
  exact R_8 h (by rw [← e, ep]; exact fl_11 k hk) (r8_or (r8_or (r8_and (RRr_8 h) _) (by decide)) (by decide))
theorem s_show {S T : Sc} {v w n : Int32} (h : RR S T) (hw : WN w n) : (f_Mdl_result T v n).1 = v &&& f_Reg_maskOf w ∧ RR (f_Reg_showResult S (v &&& f_Reg_maskOf w) w) (f_Mdl_result T v n).2 := by
  rcases hw with ⟨rfl, rfl⟩ | ⟨rfl, rfl⟩
  · show (f_Mdl_result T v 0).1 = v &&& 65535 ∧ RR (f_Reg_showResult S (v &&& 65535) 1) (f_Mdl_result T v 0).2
    have e2 : f_Reg_signOf 1 = (32768 : Int32) := rfl
    have e3 : f_Mdl_cut v 0 = v &&& 65535 := rfl
    by_cases a : ((v &&& (65535 : Int32)) &&& (32768 : Int32)) = 0
    · by_cases b : (v &&& (65535 : Int32)) = (0 : Int32)
      · have A : f_Reg_showResult S (v &&& 65535) 1 = pr S 8 (((S.1 8 &&& (-131 : Int32)) ||| (0 : Int32)) ||| (2 : Int32)) := by
          unfold f_Reg_showResult
          rw [e2, if_pos a, if_pos b]
        have B : f_Mdl_result T v 0 = (v &&& 65535, f_Mdl_flag (f_Mdl_flag T 128 0) 2 1) := by
          unfold f_Mdl_result
          rw [if_pos (rfl : (0 : Int32) = 0), e3, if_pos a]
          show (if (v &&& (65535 : Int32)) = (0 : Int32) then _ else _) = _
          rw [if_pos b]; rfl
        rw [A, B]; exact ⟨rfl, sh_01 h⟩
      · have A : f_Reg_showResult S (v &&& 65535) 1 = pr S 8 (((S.1 8 &&& (-131 : Int32)) ||| (0 : Int32)) ||| (0 : Int32)) := by
          unfold f_Reg_showResult
          rw [e2, if_pos a, if_neg b]
        have B : f_Mdl_result T v 0 = (v &&& 65535, f_Mdl_flag (f_Mdl_flag T 128 0) 2 0) := by
          unfold f_Mdl_result
          rw [if_pos (rfl : (0 : Int32) = 0), e3, if_pos a]
          show (if (v &&& (65535 : Int32)) = (0 : Int32) then _ else _) = _
          rw [if_neg b]; rfl
        rw [A, B]; exact ⟨rfl, sh_00 h⟩
    · by_cases b : (v &&& (65535 : Int32)) = (0 : Int32)
      · have A : f_Reg_showResult S (v &&& 65535) 1 = pr S 8 (((S.1 8 &&& (-131 : Int32)) ||| (128 : Int32)) ||| (2 : Int32)) := by
          unfold f_Reg_showResult
          rw [e2, if_neg a, if_pos b]
        have B : f_Mdl_result T v 0 = (v &&& 65535, f_Mdl_flag (f_Mdl_flag T 128 1) 2 1) := by
          unfold f_Mdl_result
          rw [if_pos (rfl : (0 : Int32) = 0), e3, if_neg a]
          show (if (v &&& (65535 : Int32)) = (0 : Int32) then _ else _) = _
          rw [if_pos b]; rfl
        rw [A, B]; exact ⟨rfl, sh_11 h⟩
      · have A : f_Reg_showResult S (v &&& 65535) 1 = pr S 8 (((S.1 8 &&& (-131 : Int32)) ||| (128 : Int32)) ||| (0 : Int32)) := by
          unfold f_Reg_showResult
          rw [e2, if_neg a, if_neg b]
        have B : f_Mdl_result T v 0 = (v &&& 65535, f_Mdl_flag (f_Mdl_flag T 128 1) 2 0) := by
          unfold f_Mdl_result
          rw [if_pos (rfl : (0 : Int32) = 0), e3, if_neg a]
          show (if (v &&& (65535 : Int32)) = (0 : Int32) then _ else _) = _
          rw [if_neg b]; rfl
        rw [A, B]; exact ⟨rfl, sh_10 h⟩
  · show (f_Mdl_result T v 1).1 = v &&& 255 ∧ RR (f_Reg_showResult S (v &&& 255) 0) (f_Mdl_result T v 1).2
    have e2 : f_Reg_signOf 0 = (128 : Int32) := rfl
    have e3 : f_Mdl_cut v 1 = v &&& 255 := rfl
    by_cases a : ((v &&& (255 : Int32)) &&& (128 : Int32)) = 0
    · by_cases b : (v &&& (255 : Int32)) = (0 : Int32)
      · have A : f_Reg_showResult S (v &&& 255) 0 = pr S 8 (((S.1 8 &&& (-131 : Int32)) ||| (0 : Int32)) ||| (2 : Int32)) := by
          unfold f_Reg_showResult
          rw [e2, if_pos a, if_pos b]
        have B : f_Mdl_result T v 1 = (v &&& 255, f_Mdl_flag (f_Mdl_flag T 128 0) 2 1) := by
          unfold f_Mdl_result
          rw [if_neg (by decide : ¬ (1 : Int32) = 0), e3, if_pos a]
          show (if (v &&& (255 : Int32)) = (0 : Int32) then _ else _) = _
          rw [if_pos b]; rfl
        rw [A, B]; exact ⟨rfl, sh_01 h⟩
      · have A : f_Reg_showResult S (v &&& 255) 0 = pr S 8 (((S.1 8 &&& (-131 : Int32)) ||| (0 : Int32)) ||| (0 : Int32)) := by
          unfold f_Reg_showResult
          rw [e2, if_pos a, if_neg b]
        have B : f_Mdl_result T v 1 = (v &&& 255, f_Mdl_flag (f_Mdl_flag T 128 0) 2 0) := by
          unfold f_Mdl_result
          rw [if_neg (by decide : ¬ (1 : Int32) = 0), e3, if_pos a]
          show (if (v &&& (255 : Int32)) = (0 : Int32) then _ else _) = _
          rw [if_neg b]; rfl
        rw [A, B]; exact ⟨rfl, sh_00 h⟩
    · by_cases b : (v &&& (255 : Int32)) = (0 : Int32)
      · have A : f_Reg_showResult S (v &&& 255) 0 = pr S 8 (((S.1 8 &&& (-131 : Int32)) ||| (128 : Int32)) ||| (2 : Int32)) := by
          unfold f_Reg_showResult
          rw [e2, if_neg a, if_pos b]
        have B : f_Mdl_result T v 1 = (v &&& 255, f_Mdl_flag (f_Mdl_flag T 128 1) 2 1) := by
          unfold f_Mdl_result
          rw [if_neg (by decide : ¬ (1 : Int32) = 0), e3, if_neg a]
          show (if (v &&& (255 : Int32)) = (0 : Int32) then _ else _) = _
          rw [if_pos b]; rfl
        rw [A, B]; exact ⟨rfl, sh_11 h⟩
      · have A : f_Reg_showResult S (v &&& 255) 0 = pr S 8 (((S.1 8 &&& (-131 : Int32)) ||| (128 : Int32)) ||| (0 : Int32)) := by
          unfold f_Reg_showResult
          rw [e2, if_neg a, if_neg b]
        have B : f_Mdl_result T v 1 = (v &&& 255, f_Mdl_flag (f_Mdl_flag T 128 1) 2 0) := by
          unfold f_Mdl_result
          rw [if_neg (by decide : ¬ (1 : Int32) = 0), e3, if_neg a]
          show (if (v &&& (255 : Int32)) = (0 : Int32) then _ else _) = _
          rw [if_neg b]; rfl
        rw [A, B]; exact ⟨rfl, sh_10 h⟩
theorem sh_comm {S : Sc} {j : Nat} (hj : j ≠ 8) (x v w : Int32) : f_Reg_showResult (pr S j x) v w = pr (f_Reg_showResult S v w) j x := by
  have e : (pr S j x).1 8 = S.1 8 := pk_un (Ne.symm hj)
  unfold f_Reg_showResult
  rw [e]
  split
  · split
    · exact pr_comm S hj _ _
    · exact pr_comm S hj _ _
  · split
    · exact pr_comm S hj _ _
    · exact pr_comm S hj _ _
theorem sh_bit {S : Sc} (v w : Int32) : ((f_Reg_showResult S v w).1 8) &&& 32 = S.1 8 &&& 32 ∧ ((f_Reg_showResult S v w).1 8) &&& 16 = S.1 8 &&& 16 := by
  have key : ∀ s z : Int32, s &&& 32 = 0 → z &&& 32 = 0 → s &&& 16 = 0 → z &&& 16 = 0 → (((S.1 8 &&& (-131 : Int32)) ||| s) ||| z) &&& 32 = S.1 8 &&& 32 ∧ (((S.1 8 &&& (-131 : Int32)) ||| s) ||| z) &&& 16 = S.1 8 &&& 16 := by
    intro s z h1 h2 h3 h4
    constructor
    · rw [and_or_r, and_or_r, h1, h2, Int32.and_assoc, Int32.or_zero, Int32.or_zero]; rfl
    · rw [and_or_r, and_or_r, h3, h4, Int32.and_assoc, Int32.or_zero, Int32.or_zero]; rfl
  unfold f_Reg_showResult
  split
  · split
    · exact key 0 2 (by decide) (by decide) (by decide) (by decide)
    · exact key 0 0 (by decide) (by decide) (by decide) (by decide)
  · split
    · exact key 128 2 (by decide) (by decide) (by decide) (by decide)
    · exact key 128 0 (by decide) (by decide) (by decide) (by decide)
theorem mask_16 {w n : Int32} (hw : WN w n) (v : Int32) : r16 (v &&& f_Reg_maskOf w) := by
  rcases hw with ⟨rfl, rfl⟩ | ⟨rfl, rfl⟩
  · exact m16 v
  · exact r8_16 (m8 v)
theorem s_loadX {S T : Sc} {v n : Int32} (h : RR S T) (hw : WN (f_Reg_wideIndex S) n) : RR (f_Reg_loadX S v) (pr (f_Mdl_result T v n).2 1 (f_Mdl_result T v n).1) := by
  have k := s_show (v := v) h hw
  show RR (f_Reg_showResult (pr S 1 (v &&& f_Reg_maskOf (f_Reg_wideIndex S))) (v &&& f_Reg_maskOf (f_Reg_wideIndex S)) (f_Reg_wideIndex S)) _
  rw [sh_comm (by decide)]
  exact R_1 k.2 k.1.symm (mask_16 hw v)
theorem s_loadY {S T : Sc} {v n : Int32} (h : RR S T) (hw : WN (f_Reg_wideIndex S) n) : RR (f_Reg_loadY S v) (pr (f_Mdl_result T v n).2 2 (f_Mdl_result T v n).1) := by
  have k := s_show (v := v) h hw
  show RR (f_Reg_showResult (pr S 2 (v &&& f_Reg_maskOf (f_Reg_wideIndex S))) (v &&& f_Reg_maskOf (f_Reg_wideIndex S)) (f_Reg_wideIndex S)) _
  rw [sh_comm (by decide)]
  exact R_2 k.2 k.1.symm (mask_16 hw v)
theorem WN_1 : WN 1 0 := Or.inl ⟨rfl, rfl⟩
theorem WN_0 : WN 0 1 := Or.inr ⟨rfl, rfl⟩
theorem s_loadC {S T : Sc} {v : Int32} (h : RR S T) (g : r16 v) : RR (f_Reg_loadC S v) (pr (f_Mdl_result T v 0).2 0 (f_Mdl_result T v 0).1) := by
  have k := s_show (v := v) h WN_1
  have e : v &&& f_Reg_maskOf 1 = v := g
  rw [e] at k
  show RR (f_Reg_showResult (pr S 0 v) v 1) _
  rw [sh_comm (by decide)]
  exact R_0 k.2 k.1.symm g
theorem s_loadD {S T : Sc} {v : Int32} (h : RR S T) (g : r16 v) : RR (f_Reg_loadD S v) (pr (f_Mdl_result T v 0).2 4 (f_Mdl_result T v 0).1) := by
  have k := s_show (v := v) h WN_1
  have e : v &&& f_Reg_maskOf 1 = v := g
  rw [e] at k
  show RR (f_Reg_showResult (pr S 4 v) v 1) _
  rw [sh_comm (by decide)]
  exact R_4 k.2 k.1.symm g
theorem s_loadB {S T : Sc} {v : Int32} (h : RR S T) (g : r8 v) : RR (f_Reg_loadDataBank S v) (pr (f_Mdl_result T v 1).2 5 (f_Mdl_result T v 1).1) := by
  have k := s_show (v := v) h WN_0
  have e : v &&& f_Reg_maskOf 0 = v := g
  rw [e] at k
  show RR (f_Reg_showResult (pr S 5 v) v 0) _
  rw [sh_comm (by decide)]
  exact R_5 k.2 k.1.symm g
theorem is_p {T : Sc} {S : Sc} (e : S.1 8 = T.1 6) {n f : Int32} (hw : WN (if ((S.1 8) &&& f) = (0 : Int32) then (1 : Int32) else (0 : Int32)) n) : f_Mdl_is T f = n := by
  have k := WN_p e f
  rcases hw with ⟨a, b⟩ | ⟨a, b⟩
  · rcases k with ⟨c, d⟩ | ⟨c, d⟩
    · rw [d, b]
    · rw [a] at c; exact absurd c (by decide)
  · rcases k with ⟨c, d⟩ | ⟨c, d⟩
    · rw [a] at c; exact absurd c (by decide)
    · rw [d, b]
theorem s_setA {S T : Sc} {v n : Int32} (h : RR S T) (hw : WN (f_Reg_wideA S) n) : RR (f_Reg_loadA S v) (f_Mdl_setAccumulator (f_Mdl_result T v n).2 (f_Mdl_result T v n).1) := by
  have k := s_show (v := v) h hw
  have g0 := RRr_0 h
  have ei : f_Mdl_is (f_Mdl_result T v n).2 32 = n := by
    refine is_p (S := f_Reg_showResult S (v &&& f_Reg_maskOf (f_Reg_wideA S)) (f_Reg_wideA S)) (RRe_8 k.2) ?_
    rw [(sh_bit _ _).1]
    exact hw
  have e0 : S.1 0 = (f_Mdl_result T v n).2.1 0 := by
    have := RRe_0 k.2
    rw [← this]
    unfold f_Reg_showResult
    split
    · split <;> rfl
    · split <;> rfl
  show RR (f_Reg_showResult (pr S 0 ((S.1 0 &&& (f_Reg_maskOf (f_Reg_wideA S) ^^^ (-1 : Int32))) ||| (v &&& f_Reg_maskOf (f_Reg_wideA S)))) (v &&& f_Reg_maskOf (f_Reg_wideA S)) (f_Reg_wideA S)) _
  rw [sh_comm (by decide)]
  unfold f_Mdl_setAccumulator
  rw [ei]
  generalize hT : (f_Mdl_result T v n).2 = T2 at k ei e0 ⊢
  rw [k.1]
  have k2 := k.2
  generalize f_Reg_showResult S (v &&& f_Reg_maskOf (f_Reg_wideA S)) (f_Reg_wideA S) = S2 at k2 ⊢
  generalize f_Reg_wideA S = w at hw ⊢
  rcases hw with ⟨rfl, rfl⟩ | ⟨rfl, rfl⟩
  · rw [if_pos (rfl : (0 : Int32) = 0)]
    show RR (pr S2 0 ((S.1 0 &&& ((65535 : Int32) ^^^ (-1 : Int32))) ||| (v &&& 65535))) (pr T2 0 ((v &&& 65535) &&& 65535))
    have e : (S.1 0 &&& ((65535 : Int32) ^^^ (-1 : Int32))) ||| (v &&& 65535) = (v &&& 65535) &&& 65535 := by
      rw [m16 v, ← g0, Int32.and_assoc]
      show (S.1 0 &&& 0) ||| _ = _
      rw [Int32.and_zero, Int32.zero_or]
    exact R_0 k2 e (by rw [e, m16 v]; exact m16 v)
  · rw [if_neg (by decide : ¬ (1 : Int32) = 0)]
    show RR (pr S2 0 ((S.1 0 &&& ((255 : Int32) ^^^ (-1 : Int32))) ||| (v &&& 255))) (pr T2 0 ((T2.1 0 &&& 65280) ||| ((v &&& 255) &&& 255)))
    have e : S.1 0 &&& ((255 : Int32) ^^^ (-1 : Int32)) = S.1 0 &&& 65280 := by
      rw [← g0, Int32.and_assoc, Int32.and_assoc]; rfl
    refine R_0 k2 (by rw [m8 v, e, e0]) (r16_or (r16_and g0 _) (r8_16 (m8 v)))
theorem fk_000 : ∀ k, k < 256 → ((((nI k &&& ((1 : Int32) ^^^ (-1 : Int32))) &&& (-131 : Int32)) ||| (0 : Int32)) ||| (0 : Int32)) = ((((nI k &&& (-131 : Int32)) ||| (0 : Int32)) ||| (0 : Int32)) &&& ((1 : Int32) ^^^ (-1 : Int32))) := by decide +kernel
theorem fk_001 : ∀ k, k < 256 → ((((nI k &&& ((1 : Int32) ^^^ (-1 : Int32))) &&& (-131 : Int32)) ||| (0 : Int32)) ||| (2 : Int32)) = ((((nI k &&& (-131 : Int32)) ||| (0 : Int32)) ||| (2 : Int32)) &&& ((1 : Int32) ^^^ (-1 : Int32))) := by decide +kernel
theorem fk_010 : ∀ k, k < 256 → ((((nI k &&& ((1 : Int32) ^^^ (-1 : Int32))) &&& (-131 : Int32)) ||| (128 : Int32)) ||| (0 : Int32)) = ((((nI k &&& (-131 : Int32)) ||| (128 : Int32)) ||| (0 : Int32)) &&& ((1 : Int32) ^^^ (-1 : Int32))) := by decide +kernel
theorem fk_011 : ∀ k, k < 256 → ((((nI k &&& ((1 : Int32) ^^^ (-1 : Int32))) &&& (-131 : Int32)) ||| (128 : Int32)) ||| (2 : Int32)) = ((((nI k &&& (-131 : Int32)) ||| (128 : Int32)) ||| (2 : Int32)) &&& ((1 : Int32) ^^^ (-1 : Int32))) := by decide +kernel
theorem fk_100 : ∀ k, k < 256 → ((((nI k ||| (1 : Int32)) &&& (-131 : Int32)) ||| (0 : Int32)) ||| (0 : Int32)) = ((((nI k &&& (-131 : Int32)) ||| (0 : Int32)) ||| (0 : Int32)) ||| (1 : Int32)) := by decide +kernel
theorem fk_101 : ∀ k, k < 256 → ((((nI k ||| (1 : Int32)) &&& (-131 : Int32)) ||| (0 : Int32)) ||| (2 : Int32)) = ((((nI k &&& (-131 : Int32)) ||| (0 : Int32)) ||| (2 : Int32)) ||| (1 : Int32)) := by decide +kernel
theorem fk_110 : ∀ k, k < 256 → ((((nI k ||| (1 : Int32)) &&& (-131 : Int32)) ||| (128 : Int32)) ||| (0 : Int32)) = ((((nI k &&& (-131 : Int32)) ||| (128 : Int32)) ||| (0 : Int32)) ||| (1 : Int32)) := by decide +kernel
theorem fk_111 : ∀ k, k < 256 → ((((nI k ||| (1 : Int32)) &&& (-131 : Int32)) ||| (128 : Int32)) ||| (2 : Int32)) = ((((nI k &&& (-131 : Int32)) ||| (128 : Int32)) ||| (2 : Int32)) ||| (1 : Int32)) := by decide +kernel
theorem sh_flag {S : Sc} (g : r8 (S.1 8)) (b v w : Int32) : f_Reg_showResult (f_Reg_putFlag S 1 b) v w = f_Reg_putFlag (f_Reg_showResult S v w) 1 b := by
  obtain ⟨k, hk, ep⟩ := r8_nI g
  unfold f_Reg_showResult f_Reg_putFlag
  by_cases z : b = 0
  · rw [if_pos z]
    by_cases a : (v &&& f_Reg_signOf w) = (0 : Int32)
    · by_cases q : v = (0 : Int32)
      · rw [if_pos a, if_pos q, if_pos a, if_pos q, if_pos z]
        show pr (pr S 8 _) 8 _ = pr (pr S 8 _) 8 _
        rw [pr_pr, pr_pr]; show pr S 8 ((((S.1 8 &&& _) &&& _) ||| _) ||| _) = pr S 8 ((((S.1 8 &&& _) ||| _) ||| _) &&& _); rw [ep, fk_001 k hk]
      · rw [if_pos a, if_neg q, if_pos a, if_neg q, if_pos z]
        show pr (pr S 8 _) 8 _ = pr (pr S 8 _) 8 _
        rw [pr_pr, pr_pr]; show pr S 8 ((((S.1 8 &&& _) &&& _) ||| _) ||| _) = pr S 8 ((((S.1 8 &&& _) ||| _) ||| _) &&& _); rw [ep, fk_000 k hk]
    · by_cases q : v = (0 : Int32)
      · rw [if_neg a, if_pos q, if_neg a, if_pos q, if_pos z]
        show pr (pr S 8 _) 8 _ = pr (pr S 8 _) 8 _
        rw [pr_pr, pr_pr]; show pr S 8 ((((S.1 8 &&& _) &&& _) ||| _) ||| _) = pr S 8 ((((S.1 8 &&& _) ||| _) ||| _) &&& _); rw [ep, fk_011 k hk]
      · rw [if_neg a, if_neg q, if_neg a, if_neg q, if_pos z]
        show pr (pr S 8 _) 8 _ = pr (pr S 8 _) 8 _
        rw [pr_pr, pr_pr]; show pr S 8 ((((S.1 8 &&& _) &&& _) ||| _) ||| _) = pr S 8 ((((S.1 8 &&& _) ||| _) ||| _) &&& _); rw [ep, fk_010 k hk]
  · rw [if_neg z]
    by_cases a : (v &&& f_Reg_signOf w) = (0 : Int32)
    · by_cases q : v = (0 : Int32)
      · rw [if_pos a, if_pos q, if_pos a, if_pos q, if_neg z]
        show pr (pr S 8 _) 8 _ = pr (pr S 8 _) 8 _
        rw [pr_pr, pr_pr]; show pr S 8 ((((S.1 8 ||| _) &&& _) ||| _) ||| _) = pr S 8 ((((S.1 8 &&& _) ||| _) ||| _) ||| _); rw [ep, fk_101 k hk]
      · rw [if_pos a, if_neg q, if_pos a, if_neg q, if_neg z]
        show pr (pr S 8 _) 8 _ = pr (pr S 8 _) 8 _
        rw [pr_pr, pr_pr]; show pr S 8 ((((S.1 8 ||| _) &&& _) ||| _) ||| _) = pr S 8 ((((S.1 8 &&& _) ||| _) ||| _) ||| _); rw [ep, fk_100 k hk]
    · by_cases q : v = (0 : Int32)
      · rw [if_neg a, if_pos q, if_neg a, if_pos q, if_neg z]
        show pr (pr S 8 _) 8 _ = pr (pr S 8 _) 8 _
        rw [pr_pr, pr_pr]; show pr S 8 ((((S.1 8 ||| _) &&& _) ||| _) ||| _) = pr S 8 ((((S.1 8 &&& _) ||| _) ||| _) ||| _); rw [ep, fk_111 k hk]
      · rw [if_neg a, if_neg q, if_neg a, if_neg q, if_neg z]
        show pr (pr S 8 _) 8 _ = pr (pr S 8 _) 8 _
        rw [pr_pr, pr_pr]; show pr S 8 ((((S.1 8 ||| _) &&& _) ||| _) ||| _) = pr S 8 ((((S.1 8 &&& _) ||| _) ||| _) ||| _); rw [ep, fk_110 k hk]
theorem s_cmp {S T : Sc} {x v w n : Int32} (h : RR S T) (hw : WN w n) : RR (f_Prc_compare S x v w) (f_Mdl_compare T x v n) := by
  have k := s_show (v := x - v) h hw
  unfold f_Prc_compare f_Mdl_compare
  by_cases z : x < v
  · rw [if_pos z]
    show RR (f_Reg_showResult (f_Reg_putFlag S 1 0) ((x - v) &&& f_Reg_maskOf w) w) (if x < v then _ else _)
    rw [if_pos z, sh_flag (RRr_8 h)]
    exact s_flag k.2 1 0 (by decide)
  · rw [if_neg z]
    show RR (f_Reg_showResult (f_Reg_putFlag S 1 1) ((x - v) &&& f_Reg_maskOf w) w) (if x < v then _ else _)
    rw [if_neg z, sh_flag (RRr_8 h)]
    exact s_flag k.2 1 1 (by decide)
theorem s_dir {S T : Sc} {x x2 : Int32} (h : RR S T) (e : x = x2) : RR (f_Opd_direct S x).2 (f_Mdl_direct T x2) ∧ PR (f_Opd_direct S x).1 ((f_Mdl_direct T x2).1 14) ((f_Mdl_direct T x2).1 15) := by
  subst e
  obtain ⟨a1, a2, a3⟩ := s_next h
  refine ⟨R_15 (R_14 a3), ?_⟩
  show PR (f_Bus_bank0Place ((S.1 4 + (f_Opd_nextByte S).1) + x)) (((T.1 4 + (f_Mdl_next T).1) + x) &&& 65535) 1
  rw [← a1, ← RRe_4 h]
  exact PR_b0 _
theorem R_far {S T : Sc} {x : Int32} (h : RR S T) : RR S (f_Mdl_far T x) := R_15 (R_14 h)
theorem PR_bank {S : Sc} {r r2 i i2 d : Int32} (e1 : S.1 5 = d) (e2 : r = r2) (e3 : i = i2) : PR (f_Opd_inDataBank S r i) ((((d <<< ((16 : Int32) &&& 31)) + r2) + i2) &&& 16777215) 0 := by
  subst e1; subst e2; subst e3
  exact Or.inl ⟨rfl, rfl, m24 _⟩
theorem PR_bank0 {S : Sc} {r r2 d : Int32} (e1 : S.1 5 = d) (e2 : r = r2) : PR (f_Opd_inDataBank S r 0) (((d <<< ((16 : Int32) &&& 31)) + r2) &&& 16777215) 0 := by
  subst e1; subst e2
  refine Or.inl ⟨rfl, ?_, m24 _⟩
  show (((S.1 5 <<< ((16 : Int32) &&& 31)) + r) + 0) &&& 16777215 = _
  rw [Int32.add_zero]
theorem PR_long {x y z : Int32} (e : x = y) (e2 : z = y &&& 16777215) (g : r24 y) : PR x z 0 := by
  subst e
  refine Or.inl ⟨rfl, ?_, ?_⟩
  · rw [e2]; exact g.symm
  · rw [e2]; exact m24 x
theorem PR_lp {x y z : Int32} (e : x = y) (e2 : z = y &&& 16777215) : PR (f_Bus_longPlace x) z 0 := by
  subst e; subst e2
  exact Or.inl ⟨rfl, rfl, m24 _⟩
def SP (S T : Sc) (m : Int32) : Prop := (f_Mdl_find T m).1 = 1 ∧ RR (f_Opd_place S m).2 (f_Mdl_find T m).2 ∧ PR (f_Opd_place S m).1 ((f_Mdl_find T m).2.1 14) ((f_Mdl_find T m).2.1 15) ∧ (f_Opd_place S m).2.1 8 = S.1 8
theorem s_stk {S T : Sc} (h : RR S T) : (f_Opd_nextByte S).1 = (f_Mdl_next T).1 ∧ RR (f_Opd_onStack S).2 (f_Mdl_next T).2 ∧ PR (f_Opd_onStack S).1 ((T.1 3 + (f_Mdl_next T).1) &&& 65535) 1 := by
  obtain ⟨a1, a2, a3⟩ := s_next h
  refine ⟨a1, a3, ?_⟩
  show PR (f_Bus_bank0Place (S.1 3 + (f_Opd_nextByte S).1)) ((T.1 3 + (f_Mdl_next T).1) &&& 65535) 1
  rw [← a1, ← RRe_3 h]
  exact PR_b0 _
theorem s_rl {S T : Sc} {c q : Int32} (h : RR S T) (hp : PR c q 1) : (f_Bus_readLong S c).1 = (f_Mdl_readWord T q 1).1 ||| ((f_Mdl_read (f_Mdl_readWord T q 1).2 ((q + 2) &&& 65535)).1 <<< ((16 : Int32) &&& 31)) ∧ r16 (f_Mdl_readWord T q 1).1 ∧ r24 (f_Bus_readLong S c).1 ∧ RR (f_Bus_readLong S c).2 (f_Mdl_read (f_Mdl_readWord T q 1).2 ((q + 2) &&& 65535)).2 := by
  obtain ⟨a1, a2, a3⟩ := s_rw h hp
  have hp2 := PR_after (PR_after hp)
  have hq : r16 q := by
    rcases hp with ⟨z, -⟩ | ⟨-, -, g⟩
    · exact absurd z (by decide)
    · exact g
  have af : ∀ z : Int32, r16 z → f_Mdl_after z 1 = (z + 1) &&& 65535 := by
    intro z g
    show (z &&& (16711680 : Int32)) ||| ((z + 1) &&& 65535) = _
    rw [← g, Int32.and_assoc]
    show (z &&& 0) ||| _ = _
    rw [Int32.and_zero, Int32.zero_or]
  have e : f_Mdl_after (f_Mdl_after q 1) 1 = (q + 2) &&& 65535 := by
    rw [af q hq, af _ (m16 _)]
    obtain ⟨n, hn, rfl⟩ := r16_nI hq
    rw [nI_1, nx_mod, nI_1, nx_mod, show (2 : Int32) = nI 2 from rfl, nI_add, nx_mod]
    congr 1
    omega
  obtain ⟨b1, b2, b3⟩ := s_read a3 (PR_cell hp2)
  rw [e] at b1 b3
  refine ⟨?_, by rw [← a1]; exact a2, w24 a2 b2, b3⟩
  show (f_Bus_readWord S c).1 ||| (f_Bus_readByte (f_Bus_readWord S c).2 (f_Bus_placeAfter (f_Bus_placeAfter c))).1 <<< ((16 : Int32) &&& 31) = _
  rw [a1, b1]
theorem sp_5 {S T : Sc} (h : RR S T) : SP S T 5 := by
  obtain ⟨d1, d2⟩ := s_dir (x := 0) h rfl
  exact ⟨rfl, d1, d2, rfl⟩
theorem sp_21 {S T : Sc} (h : RR S T) : SP S T 21 := by
  obtain ⟨d1, d2⟩ := s_dir h (RRe_1 h)
  exact ⟨rfl, d1, d2, rfl⟩
theorem sp_3 {S T : Sc} (h : RR S T) : SP S T 3 := by
  obtain ⟨-, d1, d2⟩ := s_stk h
  exact ⟨rfl, R_15 (R_14 d1), d2, rfl⟩
theorem sp_13 {S T : Sc} (h : RR S T) : SP S T 13 := by
  obtain ⟨a1, a2, a3⟩ := s_nw h
  have e5 := RRe_5 a3
  exact ⟨rfl, R_far a3, PR_bank e5 a1 rfl, rfl⟩
theorem sp_25 {S T : Sc} (h : RR S T) : SP S T 25 := by
  obtain ⟨a1, a2, a3⟩ := s_nw h
  have e5 := RRe_5 a3
  exact ⟨rfl, R_far a3, PR_bank e5 a1 (RRe_2 a3), rfl⟩
theorem sp_29 {S T : Sc} (h : RR S T) : SP S T 29 := by
  obtain ⟨a1, a2, a3⟩ := s_nw h
  have e5 := RRe_5 a3
  exact ⟨rfl, R_far a3, PR_bank e5 a1 (RRe_1 a3), rfl⟩
theorem sp_15 {S T : Sc} (h : RR S T) : SP S T 15 := by
  obtain ⟨a1, a2, a3⟩ := s_nl h
  refine ⟨rfl, R_far a3, PR_long a1 ?_ (by rw [← a1]; exact a2), rfl⟩
  show ((f_Mdl_nextLong T).1 + 0) &&& 16777215 = _
  rw [Int32.add_zero]
theorem sp_31 {S T : Sc} (h : RR S T) : SP S T 31 := by
  obtain ⟨a1, a2, a3⟩ := s_nl h
  refine ⟨rfl, R_far a3, PR_lp (y := (f_Mdl_nextLong T).1 + (f_Mdl_nextLong T).2.1 1) ?_ rfl, rfl⟩
  rw [a1, RRe_1 a3]
theorem sp_1 {S T : Sc} (h : RR S T) : SP S T 1 := by
  obtain ⟨d1, d2⟩ := s_dir h (RRe_1 h)
  obtain ⟨w1, w2, w3⟩ := s_rw d1 d2
  have e5 := RRe_5 w3
  exact ⟨rfl, R_far w3, PR_bank e5 w1 rfl, rfl⟩
theorem sp_17 {S T : Sc} (h : RR S T) : SP S T 17 := by
  obtain ⟨d1, d2⟩ := s_dir (x := 0) h rfl
  obtain ⟨w1, w2, w3⟩ := s_rw d1 d2
  have e5 := RRe_5 w3
  exact ⟨rfl, R_far w3, PR_bank e5 w1 (RRe_2 w3), rfl⟩
theorem sp_18 {S T : Sc} (h : RR S T) : SP S T 18 := by
  obtain ⟨d1, d2⟩ := s_dir (x := 0) h rfl
  obtain ⟨w1, w2, w3⟩ := s_rw d1 d2
  have e5 := RRe_5 w3
  exact ⟨rfl, R_far w3, PR_bank e5 w1 rfl, rfl⟩
theorem sp_7 {S T : Sc} (h : RR S T) : SP S T 7 := by
  obtain ⟨d1, d2⟩ := s_dir (x := 0) h rfl
  obtain ⟨w1, w2, w3, w4⟩ := s_rl d1 d2
  refine ⟨rfl, R_far w4, PR_long w1 ?_ (by rw [← w1]; exact w3), rfl⟩
  show (((f_Mdl_read _ _).1 <<< ((16 : Int32) &&& 31)) + (f_Mdl_readWord _ _ _).1 + 0) &&& 16777215 = _
  rw [Int32.add_zero, w24_add w2]; rfl
theorem sp_23 {S T : Sc} (h : RR S T) : SP S T 23 := by
  obtain ⟨d1, d2⟩ := s_dir (x := 0) h rfl
  obtain ⟨w1, w2, w3, w4⟩ := s_rl d1 d2
  refine ⟨rfl, R_far w4, PR_lp (e := ?_) (e2 := rfl), rfl⟩
  show (f_Bus_readLong _ _).1 + (f_Bus_readLong _ _).2.1 2 = ((f_Mdl_read _ _).1 <<< ((16 : Int32) &&& 31)) + (f_Mdl_readWord _ _ _).1 + (f_Mdl_read _ _).2.1 2
  rw [w1, RRe_2 w4, w24_add w2]; rfl
theorem sp_19 {S T : Sc} (h : RR S T) : SP S T 19 := by
  obtain ⟨d0, d1, d2⟩ := s_stk h
  obtain ⟨w1, w2, w3⟩ := s_rw (R_14 (v := (T.1 3 + (f_Mdl_next T).1) &&& 65535) d1) d2
  have e5 := RRe_5 w3
  exact ⟨rfl, R_far w3, PR_bank e5 w1 (RRe_2 w3), rfl⟩
