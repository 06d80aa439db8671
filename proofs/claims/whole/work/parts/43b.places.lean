theorem s_dir {S T : Sc} {x x2 : Int32} (h : RR S T) (e : x = x2) : RR (f_Opd_direct S x).2 (f_Mdl_direct T x2) ∧ PR (f_Opd_direct S x).1 ((f_Mdl_direct T x2).1 14) ((f_Mdl_direct T x2).1 15) := by
  subst e
  obtain ⟨a1, a2, a3⟩ := s_next h
  refine ⟨R_15 (R_14 a3), ?_⟩
  show PR (f_Bus_bank0Place ((S.1 4 + (f_Opd_nextByte S).1) + x)) (((T.1 4 + (f_Mdl_next T).1) + x) &&& 65535) 1
  rw [← a1, ← RRe_4 h]
  exact PR_b0 _
theorem R_far {S T : Sc} {x : Int32} (h : RR S T) : RR S (f_Mdl_far T x) := R_15 (R_14 h)
theorem PR_bank {S : Sc} {r r2 i i2 d : Int32} (e1 : S.1 5 = d) (e2 : r = r2) (e3 : i = i2) : PR (f_Opd_inDataBank S r i) ((((d <<< ((16 : Int32) &&& 31)) + r2) + i2) &&& 16777215) 0 := by
  subst e1; subst e2; subst e3
  exact Or.inl ⟨rfl, rfl, m24 _⟩
theorem PR_bank0 {S : Sc} {r r2 d : Int32} (e1 : S.1 5 = d) (e2 : r = r2) : PR (f_Opd_inDataBank S r 0) (((d <<< ((16 : Int32) &&& 31)) + r2) &&& 16777215) 0 := by
  subst e1; subst e2
  refine Or.inl ⟨rfl, ?_, m24 _⟩
  show (((S.1 5 <<< ((16 : Int32) &&& 31)) + r) + 0) &&& 16777215 = _
  rw [Int32.add_zero]
theorem PR_long {x y z : Int32} (e : x = y) (e2 : z = y &&& 16777215) (g : r24 y) : PR x z 0 := by
  subst e
  refine Or.inl ⟨rfl, ?_, ?_⟩
  · rw [e2]; exact g.symm
  · rw [e2]; exact m24 x
theorem PR_lp {x y z : Int32} (e : x = y) (e2 : z = y &&& 16777215) : PR (f_Bus_longPlace x) z 0 := by
  subst e; subst e2
  exact Or.inl ⟨rfl, rfl, m24 _⟩
theorem mrw_5 (T : Sc) (q n : Int32) : (f_Mdl_readWord T q n).2.1 5 = T.1 5 := rfl
theorem mrw_14 (T : Sc) (q n : Int32) : (f_Mdl_readWord T q n).2.1 14 = T.1 14 := rfl
theorem mnw_5 (T : Sc) : (f_Mdl_nextWord T).2.1 5 = T.1 5 := rfl
theorem crw_8 (S : Sc) (c : Int32) : (f_Bus_readWord S c).2.1 8 = S.1 8 := rfl
theorem crl_8 (S : Sc) (c : Int32) : (f_Bus_readLong S c).2.1 8 = S.1 8 := rfl
theorem cdi_8 (S : Sc) (c : Int32) : (f_Opd_direct S c).2.1 8 = S.1 8 := rfl
theorem cst_8 (S : Sc) : (f_Opd_onStack S).2.1 8 = S.1 8 := rfl
theorem cnw_8 (S : Sc) : (f_Opd_nextWord S).2.1 8 = S.1 8 := rfl
theorem cnl_8 (S : Sc) : (f_Opd_nextLong S).2.1 8 = S.1 8 := rfl
theorem far_14 (T : Sc) (x : Int32) : (f_Mdl_far T x).1 14 = x &&& 16777215 := rfl
theorem far_15 (T : Sc) (x : Int32) : (f_Mdl_far T x).1 15 = 0 := rfl
def SP (S T : Sc) (m : Int32) : Prop := (f_Mdl_find T m).1 = 1 ∧ RR (f_Opd_place S m).2 (f_Mdl_find T m).2 ∧ PR (f_Opd_place S m).1 ((f_Mdl_find T m).2.1 14) ((f_Mdl_find T m).2.1 15) ∧ (f_Opd_place S m).2.1 8 = S.1 8
theorem s_stk {S T : Sc} (h : RR S T) : (f_Opd_nextByte S).1 = (f_Mdl_next T).1 ∧ RR (f_Opd_onStack S).2 (f_Mdl_next T).2 ∧ PR (f_Opd_onStack S).1 ((T.1 3 + (f_Mdl_next T).1) &&& 65535) 1 := by
  obtain ⟨a1, a2, a3⟩ := s_next h
  refine ⟨a1, a3, ?_⟩
  show PR (f_Bus_bank0Place (S.1 3 + (f_Opd_nextByte S).1)) ((T.1 3 + (f_Mdl_next T).1) &&& 65535) 1
  rw [← a1, ← RRe_3 h]
  exact PR_b0 _
theorem s_rl {S T : Sc} {c q : Int32} (h : RR S T) (hp : PR c q 1) : (f_Bus_readLong S c).1 = (f_Mdl_readWord T q 1).1 ||| ((f_Mdl_read (f_Mdl_readWord T q 1).2 ((q + 2) &&& 65535)).1 <<< ((16 : Int32) &&& 31)) ∧ r16 (f_Mdl_readWord T q 1).1 ∧ r24 (f_Bus_readLong S c).1 ∧ RR (f_Bus_readLong S c).2 (f_Mdl_read (f_Mdl_readWord T q 1).2 ((q + 2) &&& 65535)).2 := by
  obtain ⟨a1, a2, a3⟩ := s_rw h hp
  have hp2 := PR_after (PR_after hp)
  have hq : r16 q := by
    rcases hp with ⟨z, -⟩ | ⟨-, -, g⟩
    · exact absurd z (by decide)
    · exact g
  have af : ∀ z : Int32, r16 z → f_Mdl_after z 1 = (z + 1) &&& 65535 := by
    intro z g
    show (z &&& (16711680 : Int32)) ||| ((z + 1) &&& 65535) = _
    rw [← g, Int32.and_assoc]
    show (z &&& 0) ||| _ = _
    rw [Int32.and_zero, Int32.zero_or]
  have e : f_Mdl_after (f_Mdl_after q 1) 1 = (q + 2) &&& 65535 := by
    rw [af q hq, af _ (m16 _)]
    obtain ⟨n, hn, rfl⟩ := r16_nI hq
    rw [nI_1, nx_mod, nI_1, nx_mod, show (2 : Int32) = nI 2 from rfl, nI_add, nx_mod]
    congr 1
    omega
  obtain ⟨b1, b2, b3⟩ := s_read a3 (PR_cell hp2)
  rw [e] at b1 b3
  refine ⟨?_, by rw [← a1]; exact a2, w24 a2 b2, b3⟩
  show (f_Bus_readWord S c).1 ||| (f_Bus_readByte (f_Bus_readWord S c).2 (f_Bus_placeAfter (f_Bus_placeAfter c))).1 <<< ((16 : Int32) &&& 31) = _
  rw [a1, b1]

