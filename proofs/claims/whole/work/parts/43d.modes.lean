theorem sp_5 {S T : Sc} (h : RR S T) : SP S T 5 := by
  obtain ⟨d1, d2⟩ := s_dir (x := 0) h rfl
  unfold SP
  rw [pl_5, fd_5]
  dsimp only
  exact ⟨rfl, d1, d2, rfl⟩
theorem sp_21 {S T : Sc} (h : RR S T) : SP S T 21 := by
  obtain ⟨d1, d2⟩ := s_dir h (RRe_1 h)
  unfold SP
  rw [pl_21, fd_21]
  dsimp only
  exact ⟨rfl, d1, d2, rfl⟩
theorem sp_3 {S T : Sc} (h : RR S T) : SP S T 3 := by
  obtain ⟨-, d1, d2⟩ := s_stk h
  unfold SP
  rw [pl_3, fd_3]
  dsimp only
  exact ⟨rfl, R_15 (R_14 d1), d2, rfl⟩
theorem sp_13 {S T : Sc} (h : RR S T) : SP S T 13 := by
  obtain ⟨a1, a2, a3⟩ := s_nw h
  have e5 := RRe_5 a3
  rw [mnw_5] at e5
  unfold SP
  rw [pl_13, fd_13]
  dsimp only
  exact ⟨rfl, R_far a3, PR_bank e5 a1 rfl, rfl⟩
theorem sp_25 {S T : Sc} (h : RR S T) : SP S T 25 := by
  obtain ⟨a1, a2, a3⟩ := s_nw h
  have e5 := RRe_5 a3
  rw [mnw_5] at e5
  unfold SP
  rw [pl_25, fd_25]
  dsimp only
  exact ⟨rfl, R_far a3, PR_bank e5 a1 (RRe_2 a3), rfl⟩
theorem sp_29 {S T : Sc} (h : RR S T) : SP S T 29 := by
  obtain ⟨a1, a2, a3⟩ := s_nw h
  have e5 := RRe_5 a3
  rw [mnw_5] at e5
  unfold SP
  rw [pl_29, fd_29]
  dsimp only
  exact ⟨rfl, R_far a3, PR_bank e5 a1 (RRe_1 a3), rfl⟩
theorem sp_15 {S T : Sc} (h : RR S T) : SP S T 15 := by
  obtain ⟨a1, a2, a3⟩ := s_nl h
  unfold SP
  rw [pl_15, fd_15]
  dsimp only
  refine ⟨rfl, R_far a3, PR_long a1 ?_ (by rw [← a1]; exact a2), rfl⟩
  show ((f_Mdl_nextLong T).1 + 0) &&& 16777215 = _
  rw [Int32.add_zero]
theorem sp_31 {S T : Sc} (h : RR S T) : SP S T 31 := by
  obtain ⟨a1, a2, a3⟩ := s_nl h
  unfold SP
  rw [pl_31, fd_31]
  dsimp only
  refine ⟨rfl, R_far a3, PR_lp (y := (f_Mdl_nextLong T).1 + (f_Mdl_nextLong T).2.1 1) ?_ rfl, rfl⟩
  rw [a1, RRe_1 a3]
theorem sp_1 {S T : Sc} (h : RR S T) : SP S T 1 := by
  obtain ⟨d1, d2⟩ := s_dir h (RRe_1 h)
  obtain ⟨w1, w2, w3⟩ := s_rw d1 d2
  have e5 := RRe_5 w3
  rw [mrw_5] at e5
  unfold SP
  rw [pl_1, fd_1]
  dsimp only
  exact ⟨rfl, R_far w3, PR_bank e5 w1 rfl, rfl⟩
theorem sp_17 {S T : Sc} (h : RR S T) : SP S T 17 := by
  obtain ⟨d1, d2⟩ := s_dir (x := 0) h rfl
  obtain ⟨w1, w2, w3⟩ := s_rw d1 d2
  have e5 := RRe_5 w3
  rw [mrw_5] at e5
  unfold SP
  rw [pl_17, fd_17]
  dsimp only
  exact ⟨rfl, R_far w3, PR_bank e5 w1 (RRe_2 w3), rfl⟩
theorem sp_18 {S T : Sc} (h : RR S T) : SP S T 18 := by
  obtain ⟨d1, d2⟩ := s_dir (x := 0) h rfl
  obtain ⟨w1, w2, w3⟩ := s_rw d1 d2
  have e5 := RRe_5 w3
  rw [mrw_5] at e5
  unfold SP
  rw [pl_18, fd_18]
  dsimp only
  exact ⟨rfl, R_far w3, PR_bank e5 w1 rfl, rfl⟩
theorem PR_long0 {x u v : Int32} (hx : x = v ||| (u <<< ((16 : Int32) &&& 31))) (hv : r16 v) (g : r24 x) : PR x ((((u <<< ((16 : Int32) &&& 31)) + v) + 0) &&& 16777215) 0 := by
  rw [Int32.add_zero, w24_add hv, ← hx]
  exact Or.inl ⟨rfl, g.symm, m24 x⟩
theorem sp_7 {S T : Sc} (h : RR S T) : SP S T 7 := by
  obtain ⟨d1, d2⟩ := s_dir (x := 0) h rfl
  obtain ⟨w1, w2, w3, w4⟩ := s_rl d1 d2
  unfold SP
  rw [pl_7, fd_7, mrw_14]
  exact ⟨rfl, R_far w4, PR_long0 w1 w2 w3, rfl⟩
theorem sp_23 {S T : Sc} (h : RR S T) : SP S T 23 := by
  obtain ⟨d1, d2⟩ := s_dir (x := 0) h rfl
  obtain ⟨w1, w2, w3, w4⟩ := s_rl d1 d2
  unfold SP
  rw [pl_23, fd_23]
  rw [mrw_14]
  dsimp only
  refine ⟨rfl, R_far w4, PR_lp (e := ?_) (e2 := rfl), rfl⟩
  show (f_Bus_readLong _ _).1 + (f_Bus_readLong _ _).2.1 2 = ((f_Mdl_read _ _).1 <<< ((16 : Int32) &&& 31)) + (f_Mdl_readWord _ _ _).1 + (f_Mdl_read _ _).2.1 2
  rw [w1, RRe_2 w4, w24_add w2]
theorem sp_19 {S T : Sc} (h : RR S T) : SP S T 19 := by
  obtain ⟨d0, d1, d2⟩ := s_stk h
  obtain ⟨w1, w2, w3⟩ := s_rw (R_14 (v := (T.1 3 + (f_Mdl_next T).1) &&& 65535) d1) d2
  have e5 := RRe_5 w3
  rw [mrw_5] at e5
  have e5 : _ = (f_Mdl_next T).2.1 5 := e5
  unfold SP
  rw [pl_19, fd_19]
  dsimp only
  exact ⟨rfl, R_far w3, PR_bank e5 w1 (RRe_2 w3), rfl⟩
theorem fd1_5 (T : Sc) : (f_Mdl_find T (5 : Int32)).1 = 1 := by rw [fd_5]
theorem fd1_21 (T : Sc) : (f_Mdl_find T (21 : Int32)).1 = 1 := by rw [fd_21]
theorem fd1_3 (T : Sc) : (f_Mdl_find T (3 : Int32)).1 = 1 := by rw [fd_3]
theorem fd1_13 (T : Sc) : (f_Mdl_find T (13 : Int32)).1 = 1 := by rw [fd_13]
theorem fd1_25 (T : Sc) : (f_Mdl_find T (25 : Int32)).1 = 1 := by rw [fd_25]
theorem fd1_29 (T : Sc) : (f_Mdl_find T (29 : Int32)).1 = 1 := by rw [fd_29]
theorem fd1_15 (T : Sc) : (f_Mdl_find T (15 : Int32)).1 = 1 := by rw [fd_15]
theorem fd1_31 (T : Sc) : (f_Mdl_find T (31 : Int32)).1 = 1 := by rw [fd_31]
theorem fd1_1 (T : Sc) : (f_Mdl_find T (1 : Int32)).1 = 1 := by rw [fd_1]
theorem fd1_17 (T : Sc) : (f_Mdl_find T (17 : Int32)).1 = 1 := by rw [fd_17]
theorem fd1_18 (T : Sc) : (f_Mdl_find T (18 : Int32)).1 = 1 := by rw [fd_18]
theorem fd1_7 (T : Sc) : (f_Mdl_find T (7 : Int32)).1 = 1 := by rw [fd_7]
theorem fd1_23 (T : Sc) : (f_Mdl_find T (23 : Int32)).1 = 1 := by rw [fd_23]
theorem fd1_19 (T : Sc) : (f_Mdl_find T (19 : Int32)).1 = 1 := by rw [fd_19]
