theorem pr_pr (S : Sc) (k : Nat) (u v : Int32) : pr (pr S k u) k v = pr S k v := by
  have e : upd (upd S.1 k u) k v = upd S.1 k v := by
    funext j
    unfold upd
    by_cases h : j = k
    · rw [if_pos h, if_pos h]
    · rw [if_neg h, if_neg h, if_neg h]
  show (upd (upd S.1 k u) k v, S.2) = (upd S.1 k v, S.2)
  rw [e]
theorem pr_comm (S : Sc) {j k : Nat} (hn : j ≠ k) (u v : Int32) : pr (pr S j u) k v = pr (pr S k v) j u := by
  have e : upd (upd S.1 j u) k v = upd (upd S.1 k v) j u := by
    funext i
    unfold upd
    by_cases h : i = k
    · rw [if_pos h, if_neg (fun q => hn (q.symm.trans h)), if_pos h]
    · rw [if_neg h]
      by_cases h2 : i = j
      · rw [if_pos h2, if_pos h2]
      · rw [if_neg h2, if_neg h2, if_neg h]
  show (upd (upd S.1 j u) k v, S.2) = (upd (upd S.1 k v) j u, S.2)
  rw [e]
theorem r8_and {x : Int32} (h : r8 x) (y : Int32) : r8 (x &&& y) := bt_r8 fun i _ hi => by rw [b_and, r8_bt h hi, Bool.false_and]
theorem r8_or {x y : Int32} (h : r8 x) (h2 : r8 y) : r8 (x ||| y) := bt_r8 fun i _ hi => by rw [b_or, r8_bt h hi, r8_bt h2 hi]; rfl
theorem r16_and {x : Int32} (h : r16 x) (y : Int32) : r16 (x &&& y) := bt_r16 fun i _ hi => by rw [b_and, r16_bt h hi, Bool.false_and]
theorem r16_or {x y : Int32} (h : r16 x) (h2 : r16 y) : r16 (x ||| y) := bt_r16 fun i _ hi => by rw [b_or, r16_bt h hi, r16_bt h2 hi]; rfl
theorem s_flag {S T : Sc} (h : RR S T) (f b : Int32) (hf : r8 f) : RR (f_Reg_putFlag S f b) (f_Mdl_flag T f b) := by
  unfold f_Reg_putFlag f_Mdl_flag
  by_cases z : b = 0
  · rw [if_pos z, if_pos z]; exact R_8 h (by rw [RRe_8 h]) (r8_and (RRr_8 h) _)
  · rw [if_neg z, if_neg z]; exact R_8 h (by rw [RRe_8 h]) (r8_or (RRr_8 h) hf)
theorem fl_00 : ∀ k, k < 256 → (((nI k &&& (-131 : Int32)) ||| (0 : Int32)) ||| (0 : Int32)) = ((nI k &&& ((128 : Int32) ^^^ (-1 : Int32))) &&& ((2 : Int32) ^^^ (-1 : Int32))) := by decide +kernel
theorem sh_00 {S T : Sc} (h : RR S T) : RR (pr S 8 (((S.1 8 &&& (-131 : Int32)) ||| (0 : Int32)) ||| (0 : Int32))) (f_Mdl_flag (f_Mdl_flag T 128 0) 2 0) := by
  obtain ⟨k, hk, ep⟩ := r8_nI (RRr_8 h)
  have e := RRe_8 h
  show RR _ (pr (pr T 6 (T.1 6 &&& ((128 : Int32) ^^^ (-1 : Int32)))) 6 ((T.1 6 &&& ((128 : Int32) ^^^ (-1 : Int32))) &&& ((2 : Int32) ^^^ (-1 : Int32))))
  rw [pr_pr]
  exact R_8 h (by rw [← e, ep]; exact fl_00 k hk) (r8_or (r8_or (r8_and (RRr_8 h) _) (by decide)) (by decide))
theorem fl_01 : ∀ k, k < 256 → (((nI k &&& (-131 : Int32)) ||| (0 : Int32)) ||| (2 : Int32)) = ((nI k &&& ((128 : Int32) ^^^ (-1 : Int32))) ||| (2 : Int32)) := by decide +kernel
theorem sh_01 {S T : Sc} (h : RR S T) : RR (pr S 8 (((S.1 8 &&& (-131 : Int32)) ||| (0 : Int32)) ||| (2 : Int32))) (f_Mdl_flag (f_Mdl_flag T 128 0) 2 1) := by
  obtain ⟨k, hk, ep⟩ := r8_nI (RRr_8 h)
  have e := RRe_8 h
  show RR _ (pr (pr T 6 (T.1 6 &&& ((128 : Int32) ^^^ (-1 : Int32)))) 6 ((T.1 6 &&& ((128 : Int32) ^^^ (-1 : Int32))) ||| (2 : Int32)))
  rw [pr_pr]
  exact R_8 h (by rw [← e, ep]; exact fl_01 k hk) (r8_or (r8_or (r8_and (RRr_8 h) _) (by decide)) (by decide))
theorem fl_10 : ∀ k, k < 256 → (((nI k &&& (-131 : Int32)) ||| (128 : Int32)) ||| (0 : Int32)) = ((nI k ||| (128 : Int32)) &&& ((2 : Int32) ^^^ (-1 : Int32))) := by decide +kernel
theorem sh_10 {S T : Sc} (h : RR S T) : RR (pr S 8 (((S.1 8 &&& (-131 : Int32)) ||| (128 : Int32)) ||| (0 : Int32))) (f_Mdl_flag (f_Mdl_flag T 128 1) 2 0) := by
  obtain ⟨k, hk, ep⟩ := r8_nI (RRr_8 h)
  have e := RRe_8 h
  show RR _ (pr (pr T 6 (T.1 6 ||| (128 : Int32))) 6 ((T.1 6 ||| (128 : Int32)) &&& ((2 : Int32) ^^^ (-1 : Int32))))
  rw [pr_pr]
  exact R_8 h (by rw [← e, ep]; exact fl_10 k hk) (r8_or (r8_or (r8_and (RRr_8 h) _) (by decide)) (by decide))
theorem fl_11 : ∀ k, k < 256 → (((nI k &&& (-131 : Int32)) ||| (128 : Int32)) ||| (2 : Int32)) = ((nI k ||| (128 : Int32)) ||| (2 : Int32)) := by decide +kernel
theorem sh_11 {S T : Sc} (h : RR S T) : RR (pr S 8 (((S.1 8 &&& (-131 : Int32)) ||| (128 : Int32)) ||| (2 : Int32))) (f_Mdl_flag (f_Mdl_flag T 128 1) 2 1) := by
  obtain ⟨k, hk, ep⟩ := r8_nI (RRr_8 h)
  have e := RRe_8 h
  show RR _ (pr (pr T 6 (T.1 6 ||| (128 : Int32))) 6 ((T.1 6 ||| (128 : Int32)) ||| (2 : Int32)))
  rw [pr_pr]
  exact R_8 h (by rw [← e, ep]; exact fl_11 k hk) (r8_or (r8_or (r8_and (RRr_8 h) _) (by decide)) (by decide))
theorem s_show {S T : Sc} {v w n : Int32} (h : RR S T) (hw : WN w n) : (f_Mdl_result T v n).1 = v &&& f_Reg_maskOf w ∧ RR (f_Reg_showResult S (v &&& f_Reg_maskOf w) w) (f_Mdl_result T v n).2 := by
  rcases hw with ⟨rfl, rfl⟩ | ⟨rfl, rfl⟩
  · show (f_Mdl_result T v 0).1 = v &&& 65535 ∧ RR (f_Reg_showResult S (v &&& 65535) 1) (f_Mdl_result T v 0).2
    have e2 : f_Reg_signOf 1 = (32768 : Int32) := rfl
    have e3 : f_Mdl_cut v 0 = v &&& 65535 := rfl
    by_cases a : ((v &&& (65535 : Int32)) &&& (32768 : Int32)) = 0
    · by_cases b : (v &&& (65535 : Int32)) = (0 : Int32)
      · have A : f_Reg_showResult S (v &&& 65535) 1 = pr S 8 (((S.1 8 &&& (-131 : Int32)) ||| (0 : Int32)) ||| (2 : Int32)) := by
          unfold f_Reg_showResult
          rw [e2, if_pos a, if_pos b]
        have B : f_Mdl_result T v 0 = (v &&& 65535, f_Mdl_flag (f_Mdl_flag T 128 0) 2 1) := by
          unfold f_Mdl_result
          rw [if_pos (rfl : (0 : Int32) = 0), e3, if_pos a]
          show (if (v &&& (65535 : Int32)) = (0 : Int32) then _ else _) = _
          rw [if_pos b]; rfl
        rw [A, B]; exact ⟨rfl, sh_01 h⟩
      · have A : f_Reg_showResult S (v &&& 65535) 1 = pr S 8 (((S.1 8 &&& (-131 : Int32)) ||| (0 : Int32)) ||| (0 : Int32)) := by
          unfold f_Reg_showResult
          rw [e2, if_pos a, if_neg b]
        have B : f_Mdl_result T v 0 = (v &&& 65535, f_Mdl_flag (f_Mdl_flag T 128 0) 2 0) := by
          unfold f_Mdl_result
          rw [if_pos (rfl : (0 : Int32) = 0), e3, if_pos a]
          show (if (v &&& (65535 : Int32)) = (0 : Int32) then _ else _) = _
          rw [if_neg b]; rfl
        rw [A, B]; exact ⟨rfl, sh_00 h⟩
    · by_cases b : (v &&& (65535 : Int32)) = (0 : Int32)
      · have A : f_Reg_showResult S (v &&& 65535) 1 = pr S 8 (((S.1 8 &&& (-131 : Int32)) ||| (128 : Int32)) ||| (2 : Int32)) := by
          unfold f_Reg_showResult
          rw [e2, if_neg a, if_pos b]
        have B : f_Mdl_result T v 0 = (v &&& 65535, f_Mdl_flag (f_Mdl_flag T 128 1) 2 1) := by
          unfold f_Mdl_result
          rw [if_pos (rfl : (0 : Int32) = 0), e3, if_neg a]
          show (if (v &&& (65535 : Int32)) = (0 : Int32) then _ else _) = _
          rw [if_pos b]; rfl
        rw [A, B]; exact ⟨rfl, sh_11 h⟩
      · have A : f_Reg_showResult S (v &&& 65535) 1 = pr S 8 (((S.1 8 &&& (-131 : Int32)) ||| (128 : Int32)) ||| (0 : Int32)) := by
          unfold f_Reg_showResult
          rw [e2, if_neg a, if_neg b]
        have B : f_Mdl_result T v 0 = (v &&& 65535, f_Mdl_flag (f_Mdl_flag T 128 1) 2 0) := by
          unfold f_Mdl_result
          rw [if_pos (rfl : (0 : Int32) = 0), e3, if_neg a]
          show (if (v &&& (65535 : Int32)) = (0 : Int32) then _ else _) = _
          rw [if_neg b]; rfl
        rw [A, B]; exact ⟨rfl, sh_10 h⟩
  · show (f_Mdl_result T v 1).1 = v &&& 255 ∧ RR (f_Reg_showResult S (v &&& 255) 0) (f_Mdl_result T v 1).2
    have e2 : f_Reg_signOf 0 = (128 : Int32) := rfl
    have e3 : f_Mdl_cut v 1 = v &&& 255 := rfl
    by_cases a : ((v &&& (255 : Int32)) &&& (128 : Int32)) = 0
    · by_cases b : (v &&& (255 : Int32)) = (0 : Int32)
      · have A : f_Reg_showResult S (v &&& 255) 0 = pr S 8 (((S.1 8 &&& (-131 : Int32)) ||| (0 : Int32)) ||| (2 : Int32)) := by
          unfold f_Reg_showResult
          rw [e2, if_pos a, if_pos b]
        have B : f_Mdl_result T v 1 = (v &&& 255, f_Mdl_flag (f_Mdl_flag T 128 0) 2 1) := by
          unfold f_Mdl_result
          rw [if_neg (by decide : ¬ (1 : Int32) = 0), e3, if_pos a]
          show (if (v &&& (255 : Int32)) = (0 : Int32) then _ else _) = _
          rw [if_pos b]; rfl
        rw [A, B]; exact ⟨rfl, sh_01 h⟩
      · have A : f_Reg_showResult S (v &&& 255) 0 = pr S 8 (((S.1 8 &&& (-131 : Int32)) ||| (0 : Int32)) ||| (0 : Int32)) := by
          unfold f_Reg_showResult
          rw [e2, if_pos a, if_neg b]
        have B : f_Mdl_result T v 1 = (v &&& 255, f_Mdl_flag (f_Mdl_flag T 128 0) 2 0) := by
          unfold f_Mdl_result
          rw [if_neg (by decide : ¬ (1 : Int32) = 0), e3, if_pos a]
          show (if (v &&& (255 : Int32)) = (0 : Int32) then _ else _) = _
          rw [if_neg b]; rfl
        rw [A, B]; exact ⟨rfl, sh_00 h⟩
    · by_cases b : (v &&& (255 : Int32)) = (0 : Int32)
      · have A : f_Reg_showResult S (v &&& 255) 0 = pr S 8 (((S.1 8 &&& (-131 : Int32)) ||| (128 : Int32)) ||| (2 : Int32)) := by
          unfold f_Reg_showResult
          rw [e2, if_neg a, if_pos b]
        have B : f_Mdl_result T v 1 = (v &&& 255, f_Mdl_flag (f_Mdl_flag T 128 1) 2 1) := by
          unfold f_Mdl_result
          rw [if_neg (by decide : ¬ (1 : Int32) = 0), e3, if_neg a]
          show (if (v &&& (255 : Int32)) = (0 : Int32) then _ else _) = _
          rw [if_pos b]; rfl
        rw [A, B]; exact ⟨rfl, sh_11 h⟩
      · have A : f_Reg_showResult S (v &&& 255) 0 = pr S 8 (((S.1 8 &&& (-131 : Int32)) ||| (128 : Int32)) ||| (0 : Int32)) := by
          unfold f_Reg_showResult
          rw [e2, if_neg a, if_neg b]
        have B : f_Mdl_result T v 1 = (v &&& 255, f_Mdl_flag (f_Mdl_flag T 128 1) 2 0) := by
          unfold f_Mdl_result
          rw [if_neg (by decide : ¬ (1 : Int32) = 0), e3, if_neg a]
          show (if (v &&& (255 : Int32)) = (0 : Int32) then _ else _) = _
          rw [if_neg b]; rfl
        rw [A, B]; exact ⟨rfl, sh_10 h⟩
theorem sh_comm {S : Sc} {j : Nat} (hj : j ≠ 8) (x v w : Int32) : f_Reg_showResult (pr S j x) v w = pr (f_Reg_showResult S v w) j x := by
  have e : (pr S j x).1 8 = S.1 8 := pk_un (Ne.symm hj)
  unfold f_Reg_showResult
  rw [e]
  split
  · split
    · exact pr_comm S hj _ _
    · exact pr_comm S hj _ _
  · split
    · exact pr_comm S hj _ _
    · exact pr_comm S hj _ _
theorem sh_bit {S : Sc} (v w : Int32) : ((f_Reg_showResult S v w).1 8) &&& 32 = S.1 8 &&& 32 ∧ ((f_Reg_showResult S v w).1 8) &&& 16 = S.1 8 &&& 16 := by
  have key : ∀ s z : Int32, s &&& 32 = 0 → z &&& 32 = 0 → s &&& 16 = 0 → z &&& 16 = 0 → (((S.1 8 &&& (-131 : Int32)) ||| s) ||| z) &&& 32 = S.1 8 &&& 32 ∧ (((S.1 8 &&& (-131 : Int32)) ||| s) ||| z) &&& 16 = S.1 8 &&& 16 := by
    intro s z h1 h2 h3 h4
    constructor
    · rw [and_or_r, and_or_r, h1, h2, Int32.and_assoc, Int32.or_zero, Int32.or_zero]; rfl
    · rw [and_or_r, and_or_r, h3, h4, Int32.and_assoc, Int32.or_zero, Int32.or_zero]; rfl
  unfold f_Reg_showResult
  split
  · split
    · exact key 0 2 (by decide) (by decide) (by decide) (by decide)
    · exact key 0 0 (by decide) (by decide) (by decide) (by decide)
  · split
    · exact key 128 2 (by decide) (by decide) (by decide) (by decide)
    · exact key 128 0 (by decide) (by decide) (by decide) (by decide)
theorem mask_16 {w n : Int32} (hw : WN w n) (v : Int32) : r16 (v &&& f_Reg_maskOf w) := by
  rcases hw with ⟨rfl, rfl⟩ | ⟨rfl, rfl⟩
  · exact m16 v
  · exact r8_16 (m8 v)
theorem s_loadX {S T : Sc} {v n : Int32} (h : RR S T) (hw : WN (f_Reg_wideIndex S) n) : RR (f_Reg_loadX S v) (pr (f_Mdl_result T v n).2 1 (f_Mdl_result T v n).1) := by
  have k := s_show (v := v) h hw
  show RR (f_Reg_showResult (pr S 1 (v &&& f_Reg_maskOf (f_Reg_wideIndex S))) (v &&& f_Reg_maskOf (f_Reg_wideIndex S)) (f_Reg_wideIndex S)) _
  rw [sh_comm (by decide)]
  exact R_1 k.2 k.1.symm (mask_16 hw v)
theorem s_loadY {S T : Sc} {v n : Int32} (h : RR S T) (hw : WN (f_Reg_wideIndex S) n) : RR (f_Reg_loadY S v) (pr (f_Mdl_result T v n).2 2 (f_Mdl_result T v n).1) := by
  have k := s_show (v := v) h hw
  show RR (f_Reg_showResult (pr S 2 (v &&& f_Reg_maskOf (f_Reg_wideIndex S))) (v &&& f_Reg_maskOf (f_Reg_wideIndex S)) (f_Reg_wideIndex S)) _
  rw [sh_comm (by decide)]
  exact R_2 k.2 k.1.symm (mask_16 hw v)
theorem WN_1 : WN 1 0 := Or.inl ⟨rfl, rfl⟩
theorem WN_0 : WN 0 1 := Or.inr ⟨rfl, rfl⟩
theorem s_loadC {S T : Sc} {v : Int32} (h : RR S T) (g : r16 v) : RR (f_Reg_loadC S v) (pr (f_Mdl_result T v 0).2 0 (f_Mdl_result T v 0).1) := by
  have k := s_show (v := v) h WN_1
  have e : v &&& f_Reg_maskOf 1 = v := g
  rw [e] at k
  show RR (f_Reg_showResult (pr S 0 v) v 1) _
  rw [sh_comm (by decide)]
  exact R_0 k.2 k.1.symm g
theorem s_loadD {S T : Sc} {v : Int32} (h : RR S T) (g : r16 v) : RR (f_Reg_loadD S v) (pr (f_Mdl_result T v 0).2 4 (f_Mdl_result T v 0).1) := by
  have k := s_show (v := v) h WN_1
  have e : v &&& f_Reg_maskOf 1 = v := g
  rw [e] at k
  show RR (f_Reg_showResult (pr S 4 v) v 1) _
  rw [sh_comm (by decide)]
  exact R_4 k.2 k.1.symm g
theorem s_loadB {S T : Sc} {v : Int32} (h : RR S T) (g : r8 v) : RR (f_Reg_loadDataBank S v) (pr (f_Mdl_result T v 1).2 5 (f_Mdl_result T v 1).1) := by
  have k := s_show (v := v) h WN_0
  have e : v &&& f_Reg_maskOf 0 = v := g
  rw [e] at k
  show RR (f_Reg_showResult (pr S 5 v) v 0) _
  rw [sh_comm (by decide)]
  exact R_5 k.2 k.1.symm g
theorem is_p {T : Sc} {S : Sc} (e : S.1 8 = T.1 6) {n f : Int32} (hw : WN (if ((S.1 8) &&& f) = (0 : Int32) then (1 : Int32) else (0 : Int32)) n) : f_Mdl_is T f = n := by
  have k := WN_p e f
  rcases hw with ⟨a, b⟩ | ⟨a, b⟩
  · rcases k with ⟨c, d⟩ | ⟨c, d⟩
    · rw [d, b]
    · rw [a] at c; exact absurd c (by decide)
  · rcases k with ⟨c, d⟩ | ⟨c, d⟩
    · rw [a] at c; exact absurd c (by decide)
    · rw [d, b]
theorem s_setA {S T : Sc} {v n : Int32} (h : RR S T) (hw : WN (f_Reg_wideA S) n) : RR (f_Reg_loadA S v) (f_Mdl_setAccumulator (f_Mdl_result T v n).2 (f_Mdl_result T v n).1) := by
  have k := s_show (v := v) h hw
  have g0 := RRr_0 h
  have ei : f_Mdl_is (f_Mdl_result T v n).2 32 = n := by
    refine is_p (S := f_Reg_showResult S (v &&& f_Reg_maskOf (f_Reg_wideA S)) (f_Reg_wideA S)) (RRe_8 k.2) ?_
    rw [(sh_bit _ _).1]
    exact hw
  have e0 : S.1 0 = (f_Mdl_result T v n).2.1 0 := by
    have := RRe_0 k.2
    rw [← this]
    unfold f_Reg_showResult
    split
    · split <;> rfl
    · split <;> rfl
  show RR (f_Reg_showResult (pr S 0 ((S.1 0 &&& (f_Reg_maskOf (f_Reg_wideA S) ^^^ (-1 : Int32))) ||| (v &&& f_Reg_maskOf (f_Reg_wideA S)))) (v &&& f_Reg_maskOf (f_Reg_wideA S)) (f_Reg_wideA S)) _
  rw [sh_comm (by decide)]
  unfold f_Mdl_setAccumulator
  rw [ei]
  generalize hT : (f_Mdl_result T v n).2 = T2 at k ei e0 ⊢
  rw [k.1]
  have k2 := k.2
  generalize f_Reg_showResult S (v &&& f_Reg_maskOf (f_Reg_wideA S)) (f_Reg_wideA S) = S2 at k2 ⊢
  generalize f_Reg_wideA S = w at hw ⊢
  rcases hw with ⟨rfl, rfl⟩ | ⟨rfl, rfl⟩
  · rw [if_pos (rfl : (0 : Int32) = 0)]
    show RR (pr S2 0 ((S.1 0 &&& ((65535 : Int32) ^^^ (-1 : Int32))) ||| (v &&& 65535))) (pr T2 0 ((v &&& 65535) &&& 65535))
    have e : (S.1 0 &&& ((65535 : Int32) ^^^ (-1 : Int32))) ||| (v &&& 65535) = (v &&& 65535) &&& 65535 := by
      rw [m16 v, ← g0, Int32.and_assoc]
      show (S.1 0 &&& 0) ||| _ = _
      rw [Int32.and_zero, Int32.zero_or]
    exact R_0 k2 e (by rw [e, m16 v]; exact m16 v)
  · rw [if_neg (by decide : ¬ (1 : Int32) = 0)]
    show RR (pr S2 0 ((S.1 0 &&& ((255 : Int32) ^^^ (-1 : Int32))) ||| (v &&& 255))) (pr T2 0 ((T2.1 0 &&& 65280) ||| ((v &&& 255) &&& 255)))
    have e : S.1 0 &&& ((255 : Int32) ^^^ (-1 : Int32)) = S.1 0 &&& 65280 := by
      rw [← g0, Int32.and_assoc, Int32.and_assoc]; rfl
    refine R_0 k2 (by rw [m8 v, e, e0]) (r16_or (r16_and g0 _) (r8_16 (m8 v)))
theorem fk_000 : ∀ k, k < 256 → ((((nI k &&& ((1 : Int32) ^^^ (-1 : Int32))) &&& (-131 : Int32)) ||| (0 : Int32)) ||| (0 : Int32)) = ((((nI k &&& (-131 : Int32)) ||| (0 : Int32)) ||| (0 : Int32)) &&& ((1 : Int32) ^^^ (-1 : Int32))) := by decide +kernel
theorem fk_001 : ∀ k, k < 256 → ((((nI k &&& ((1 : Int32) ^^^ (-1 : Int32))) &&& (-131 : Int32)) ||| (0 : Int32)) ||| (2 : Int32)) = ((((nI k &&& (-131 : Int32)) ||| (0 : Int32)) ||| (2 : Int32)) &&& ((1 : Int32) ^^^ (-1 : Int32))) := by decide +kernel
theorem fk_010 : ∀ k, k < 256 → ((((nI k &&& ((1 : Int32) ^^^ (-1 : Int32))) &&& (-131 : Int32)) ||| (128 : Int32)) ||| (0 : Int32)) = ((((nI k &&& (-131 : Int32)) ||| (128 : Int32)) ||| (0 : Int32)) &&& ((1 : Int32) ^^^ (-1 : Int32))) := by decide +kernel
theorem fk_011 : ∀ k, k < 256 → ((((nI k &&& ((1 : Int32) ^^^ (-1 : Int32))) &&& (-131 : Int32)) ||| (128 : Int32)) ||| (2 : Int32)) = ((((nI k &&& (-131 : Int32)) ||| (128 : Int32)) ||| (2 : Int32)) &&& ((1 : Int32) ^^^ (-1 : Int32))) := by decide +kernel
theorem fk_100 : ∀ k, k < 256 → ((((nI k ||| (1 : Int32)) &&& (-131 : Int32)) ||| (0 : Int32)) ||| (0 : Int32)) = ((((nI k &&& (-131 : Int32)) ||| (0 : Int32)) ||| (0 : Int32)) ||| (1 : Int32)) := by decide +kernel
theorem fk_101 : ∀ k, k < 256 → ((((nI k ||| (1 : Int32)) &&& (-131 : Int32)) ||| (0 : Int32)) ||| (2 : Int32)) = ((((nI k &&& (-131 : Int32)) ||| (0 : Int32)) ||| (2 : Int32)) ||| (1 : Int32)) := by decide +kernel
theorem fk_110 : ∀ k, k < 256 → ((((nI k ||| (1 : Int32)) &&& (-131 : Int32)) ||| (128 : Int32)) ||| (0 : Int32)) = ((((nI k &&& (-131 : Int32)) ||| (128 : Int32)) ||| (0 : Int32)) ||| (1 : Int32)) := by decide +kernel
theorem fk_111 : ∀ k, k < 256 → ((((nI k ||| (1 : Int32)) &&& (-131 : Int32)) ||| (128 : Int32)) ||| (2 : Int32)) = ((((nI k &&& (-131 : Int32)) ||| (128 : Int32)) ||| (2 : Int32)) ||| (1 : Int32)) := by decide +kernel
theorem sh_flag {S : Sc} (g : r8 (S.1 8)) (b v w : Int32) : f_Reg_showResult (f_Reg_putFlag S 1 b) v w = f_Reg_putFlag (f_Reg_showResult S v w) 1 b := by
  obtain ⟨k, hk, ep⟩ := r8_nI g
  unfold f_Reg_showResult f_Reg_putFlag
  by_cases z : b = 0
  · rw [if_pos z]
    by_cases a : (v &&& f_Reg_signOf w) = (0 : Int32)
    · by_cases q : v = (0 : Int32)
      · rw [if_pos a, if_pos q, if_pos a, if_pos q, if_pos z]
        show pr (pr S 8 _) 8 _ = pr (pr S 8 _) 8 _
        rw [pr_pr, pr_pr]; show pr S 8 ((((S.1 8 &&& _) &&& _) ||| _) ||| _) = pr S 8 ((((S.1 8 &&& _) ||| _) ||| _) &&& _); rw [ep, fk_001 k hk]
      · rw [if_pos a, if_neg q, if_pos a, if_neg q, if_pos z]
        show pr (pr S 8 _) 8 _ = pr (pr S 8 _) 8 _
        rw [pr_pr, pr_pr]; show pr S 8 ((((S.1 8 &&& _) &&& _) ||| _) ||| _) = pr S 8 ((((S.1 8 &&& _) ||| _) ||| _) &&& _); rw [ep, fk_000 k hk]
    · by_cases q : v = (0 : Int32)
      · rw [if_neg a, if_pos q, if_neg a, if_pos q, if_pos z]
        show pr (pr S 8 _) 8 _ = pr (pr S 8 _) 8 _
        rw [pr_pr, pr_pr]; show pr S 8 ((((S.1 8 &&& _) &&& _) ||| _) ||| _) = pr S 8 ((((S.1 8 &&& _) ||| _) ||| _) &&& _); rw [ep, fk_011 k hk]
      · rw [if_neg a, if_neg q, if_neg a, if_neg q, if_pos z]
        show pr (pr S 8 _) 8 _ = pr (pr S 8 _) 8 _
        rw [pr_pr, pr_pr]; show pr S 8 ((((S.1 8 &&& _) &&& _) ||| _) ||| _) = pr S 8 ((((S.1 8 &&& _) ||| _) ||| _) &&& _); rw [ep, fk_010 k hk]
  · rw [if_neg z]
    by_cases a : (v &&& f_Reg_signOf w) = (0 : Int32)
    · by_cases q : v = (0 : Int32)
      · rw [if_pos a, if_pos q, if_pos a, if_pos q, if_neg z]
        show pr (pr S 8 _) 8 _ = pr (pr S 8 _) 8 _
        rw [pr_pr, pr_pr]; show pr S 8 ((((S.1 8 ||| _) &&& _) ||| _) ||| _) = pr S 8 ((((S.1 8 &&& _) ||| _) ||| _) ||| _); rw [ep, fk_101 k hk]
      · rw [if_pos a, if_neg q, if_pos a, if_neg q, if_neg z]
        show pr (pr S 8 _) 8 _ = pr (pr S 8 _) 8 _
        rw [pr_pr, pr_pr]; show pr S 8 ((((S.1 8 ||| _) &&& _) ||| _) ||| _) = pr S 8 ((((S.1 8 &&& _) ||| _) ||| _) ||| _); rw [ep, fk_100 k hk]
    · by_cases q : v = (0 : Int32)
      · rw [if_neg a, if_pos q, if_neg a, if_pos q, if_neg z]
        show pr (pr S 8 _) 8 _ = pr (pr S 8 _) 8 _
        rw [pr_pr, pr_pr]; show pr S 8 ((((S.1 8 ||| _) &&& _) ||| _) ||| _) = pr S 8 ((((S.1 8 &&& _) ||| _) ||| _) ||| _); rw [ep, fk_111 k hk]
      · rw [if_neg a, if_neg q, if_neg a, if_neg q, if_neg z]
        show pr (pr S 8 _) 8 _ = pr (pr S 8 _) 8 _
        rw [pr_pr, pr_pr]; show pr S 8 ((((S.1 8 ||| _) &&& _) ||| _) ||| _) = pr S 8 ((((S.1 8 &&& _) ||| _) ||| _) ||| _); rw [ep, fk_110 k hk]
theorem s_cmp {S T : Sc} {x v w n : Int32} (h : RR S T) (hw : WN w n) : RR (f_Prc_compare S x v w) (f_Mdl_compare T x v n) := by
  have k := s_show (v := x - v) h hw
  unfold f_Prc_compare f_Mdl_compare
  by_cases z : x < v
  · rw [if_pos z]
    show RR (f_Reg_showResult (f_Reg_putFlag S 1 0) ((x - v) &&& f_Reg_maskOf w) w) (if x < v then _ else _)
    rw [if_pos z, sh_flag (RRr_8 h)]
    exact s_flag k.2 1 0 (by decide)
  · rw [if_neg z]
    show RR (f_Reg_showResult (f_Reg_putFlag S 1 1) ((x - v) &&& f_Reg_maskOf w) w) (if x < v then _ else _)
    rw [if_neg z, sh_flag (RRr_8 h)]
    exact s_flag k.2 1 1 (by decide)
