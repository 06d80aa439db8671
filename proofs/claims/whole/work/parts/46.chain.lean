theorem bn0 (S : Sc) (F G : Sc → Sc) : bn ((0 : Int32), S) (fun r S1 => if r = (0 : Int32) then F S1 else G S1) = F S := rfl
theorem bn1 {x : Int32 × Sc} (k : x.1 = (1 : Int32)) (F G : Sc → Sc) : bn x (fun r S1 => if r = (0 : Int32) then F S1 else G S1) = G x.2 := by
  have e : bn x (fun r S1 => if r = (0 : Int32) then F S1 else G S1) = if x.1 = (0 : Int32) then F x.2 else G x.2 := rfl
  rw [e, k, if_neg (by decide : ¬ (1 : Int32) = 0)]
def cT (S : Sc) (r : Int32) : Sc := bn (f_Prc_useAccumulator S r) (fun r0 S0 => if r0 = (0 : Int32) then (bn (f_Prc_useIndex S0 r) (fun r1 S1 => if r1 = (0 : Int32) then (bn (f_Prc_storeZero S1 r) (fun r2 S2 => if r2 = (0 : Int32) then (bn (f_Prc_changeMemory S2 r) (fun r3 S3 => if r3 = (0 : Int32) then (bn (f_Prc_changeRegister S3 r) (fun r4 S4 => if r4 = (0 : Int32) then (bn (f_Prc_transfer S4 r) (fun r5 S5 => if r5 = (0 : Int32) then (bn (f_Prc_push S5 r) (fun r6 S6 => if r6 = (0 : Int32) then (bn (f_Prc_pull S6 r) (fun r7 S7 => if r7 = (0 : Int32) then (bn (f_Prc_branch S7 r) (fun r8 S8 => if r8 = (0 : Int32) then (bn (f_Prc_jump S8 r) (fun r9 S9 => if r9 = (0 : Int32) then (bn (f_Prc_changeFlags S9 r) (fun r10 S10 => if r10 = (0 : Int32) then (bn (f_Prc_moveBlock S10 r) (fun r11 S11 => if r11 = (0 : Int32) then ((pr S11 12 (1 : Int32))) else ((pr S11 12 (0 : Int32))))) else ((pr S10 12 (0 : Int32))))) else ((pr S9 12 (0 : Int32))))) else ((pr S8 12 (0 : Int32))))) else ((pr S7 12 (0 : Int32))))) else ((pr S6 12 (0 : Int32))))) else ((pr S5 12 (0 : Int32))))) else ((pr S4 12 (0 : Int32))))) else ((pr S3 12 (0 : Int32))))) else ((pr S2 12 (0 : Int32))))) else ((pr S1 12 (0 : Int32))))) else ((pr S0 12 (0 : Int32))))
def mC (S : Sc) (r : Int32) : Sc := bn (f_Mdl_change S r) (fun r0 S0 => if r0 = (0 : Int32) then (bn (f_Mdl_index S0 r) (fun r1 S1 => if r1 = (0 : Int32) then (bn (f_Mdl_transfer S1 r) (fun r2 S2 => if r2 = (0 : Int32) then (bn (f_Mdl_stack S2 r) (fun r3 S3 => if r3 = (0 : Int32) then (bn (f_Mdl_jump S3 r) (fun r4 S4 => if r4 = (0 : Int32) then (bn (f_Mdl_other S4 r) (fun r5 S5 => if r5 = (0 : Int32) then ((pr S5 9 (1 : Int32))) else ((pr S5 9 (0 : Int32))))) else ((pr S4 9 (0 : Int32))))) else ((pr S3 9 (0 : Int32))))) else ((pr S2 9 (0 : Int32))))) else ((pr S1 9 (0 : Int32))))) else ((pr S0 9 (0 : Int32))))
def mA (S : Sc) (r : Int32) : Sc := bn (f_Mdl_arithmetic S r) (fun r0 S0 => if r0 = (0 : Int32) then ((pr S0 9 (1 : Int32))) else ((pr S0 9 (0 : Int32))))
def mT (S : Sc) (r : Int32) : Sc := if ((r &&& (31 : Int32)) &&& (1 : Int32)) = (1 : Int32) then (if (r &&& (31 : Int32)) = (11 : Int32) then (mC S r) else (if (r &&& (31 : Int32)) = (27 : Int32) then (mC S r) else (mA S r))) else (if (r &&& (31 : Int32)) = (18 : Int32) then (mA S r) else (mC S r))
theorem cT_0 {S : Sc} {r : Int32}  (k : (f_Prc_useAccumulator S r).1 = (1 : Int32)) : cT S r = pr (f_Prc_useAccumulator S r).2 12 (0 : Int32) := by
  unfold cT
  rw [bn1 k]
theorem cT_1 {S : Sc} {r : Int32} (h0 : f_Prc_useAccumulator S r = ((0 : Int32), S)) (k : (f_Prc_useIndex S r).1 = (1 : Int32)) : cT S r = pr (f_Prc_useIndex S r).2 12 (0 : Int32) := by
  unfold cT
  rw [h0, bn0, bn1 k]
theorem cT_2 {S : Sc} {r : Int32} (h0 : f_Prc_useAccumulator S r = ((0 : Int32), S)) (h1 : f_Prc_useIndex S r = ((0 : Int32), S)) (k : (f_Prc_storeZero S r).1 = (1 : Int32)) : cT S r = pr (f_Prc_storeZero S r).2 12 (0 : Int32) := by
  unfold cT
  rw [h0, bn0, h1, bn0, bn1 k]
theorem cT_3 {S : Sc} {r : Int32} (h0 : f_Prc_useAccumulator S r = ((0 : Int32), S)) (h1 : f_Prc_useIndex S r = ((0 : Int32), S)) (h2 : f_Prc_storeZero S r = ((0 : Int32), S)) (k : (f_Prc_changeMemory S r).1 = (1 : Int32)) : cT S r = pr (f_Prc_changeMemory S r).2 12 (0 : Int32) := by
  unfold cT
  rw [h0, bn0, h1, bn0, h2, bn0, bn1 k]
theorem cT_4 {S : Sc} {r : Int32} (h0 : f_Prc_useAccumulator S r = ((0 : Int32), S)) (h1 : f_Prc_useIndex S r = ((0 : Int32), S)) (h2 : f_Prc_storeZero S r = ((0 : Int32), S)) (h3 : f_Prc_changeMemory S r = ((0 : Int32), S)) (k : (f_Prc_changeRegister S r).1 = (1 : Int32)) : cT S r = pr (f_Prc_changeRegister S r).2 12 (0 : Int32) := by
  unfold cT
  rw [h0, bn0, h1, bn0, h2, bn0, h3, bn0, bn1 k]
theorem cT_5 {S : Sc} {r : Int32} (h0 : f_Prc_useAccumulator S r = ((0 : Int32), S)) (h1 : f_Prc_useIndex S r = ((0 : Int32), S)) (h2 : f_Prc_storeZero S r = ((0 : Int32), S)) (h3 : f_Prc_changeMemory S r = ((0 : Int32), S)) (h4 : f_Prc_changeRegister S r = ((0 : Int32), S)) (k : (f_Prc_transfer S r).1 = (1 : Int32)) : cT S r = pr (f_Prc_transfer S r).2 12 (0 : Int32) := by
  unfold cT
  rw [h0, bn0, h1, bn0, h2, bn0, h3, bn0, h4, bn0, bn1 k]
theorem cT_6 {S : Sc} {r : Int32} (h0 : f_Prc_useAccumulator S r = ((0 : Int32), S)) (h1 : f_Prc_useIndex S r = ((0 : Int32), S)) (h2 : f_Prc_storeZero S r = ((0 : Int32), S)) (h3 : f_Prc_changeMemory S r = ((0 : Int32), S)) (h4 : f_Prc_changeRegister S r = ((0 : Int32), S)) (h5 : f_Prc_transfer S r = ((0 : Int32), S)) (k : (f_Prc_push S r).1 = (1 : Int32)) : cT S r = pr (f_Prc_push S r).2 12 (0 : Int32) := by
  unfold cT
  rw [h0, bn0, h1, bn0, h2, bn0, h3, bn0, h4, bn0, h5, bn0, bn1 k]
theorem cT_7 {S : Sc} {r : Int32} (h0 : f_Prc_useAccumulator S r = ((0 : Int32), S)) (h1 : f_Prc_useIndex S r = ((0 : Int32), S)) (h2 : f_Prc_storeZero S r = ((0 : Int32), S)) (h3 : f_Prc_changeMemory S r = ((0 : Int32), S)) (h4 : f_Prc_changeRegister S r = ((0 : Int32), S)) (h5 : f_Prc_transfer S r = ((0 : Int32), S)) (h6 : f_Prc_push S r = ((0 : Int32), S)) (k : (f_Prc_pull S r).1 = (1 : Int32)) : cT S r = pr (f_Prc_pull S r).2 12 (0 : Int32) := by
  unfold cT
  rw [h0, bn0, h1, bn0, h2, bn0, h3, bn0, h4, bn0, h5, bn0, h6, bn0, bn1 k]
theorem cT_8 {S : Sc} {r : Int32} (h0 : f_Prc_useAccumulator S r = ((0 : Int32), S)) (h1 : f_Prc_useIndex S r = ((0 : Int32), S)) (h2 : f_Prc_storeZero S r = ((0 : Int32), S)) (h3 : f_Prc_changeMemory S r = ((0 : Int32), S)) (h4 : f_Prc_changeRegister S r = ((0 : Int32), S)) (h5 : f_Prc_transfer S r = ((0 : Int32), S)) (h6 : f_Prc_push S r = ((0 : Int32), S)) (h7 : f_Prc_pull S r = ((0 : Int32), S)) (k : (f_Prc_branch S r).1 = (1 : Int32)) : cT S r = pr (f_Prc_branch S r).2 12 (0 : Int32) := by
  unfold cT
  rw [h0, bn0, h1, bn0, h2, bn0, h3, bn0, h4, bn0, h5, bn0, h6, bn0, h7, bn0, bn1 k]
theorem cT_9 {S : Sc} {r : Int32} (h0 : f_Prc_useAccumulator S r = ((0 : Int32), S)) (h1 : f_Prc_useIndex S r = ((0 : Int32), S)) (h2 : f_Prc_storeZero S r = ((0 : Int32), S)) (h3 : f_Prc_changeMemory S r = ((0 : Int32), S)) (h4 : f_Prc_changeRegister S r = ((0 : Int32), S)) (h5 : f_Prc_transfer S r = ((0 : Int32), S)) (h6 : f_Prc_push S r = ((0 : Int32), S)) (h7 : f_Prc_pull S r = ((0 : Int32), S)) (h8 : f_Prc_branch S r = ((0 : Int32), S)) (k : (f_Prc_jump S r).1 = (1 : Int32)) : cT S r = pr (f_Prc_jump S r).2 12 (0 : Int32) := by
  unfold cT
  rw [h0, bn0, h1, bn0, h2, bn0, h3, bn0, h4, bn0, h5, bn0, h6, bn0, h7, bn0, h8, bn0, bn1 k]
theorem cT_10 {S : Sc} {r : Int32} (h0 : f_Prc_useAccumulator S r = ((0 : Int32), S)) (h1 : f_Prc_useIndex S r = ((0 : Int32), S)) (h2 : f_Prc_storeZero S r = ((0 : Int32), S)) (h3 : f_Prc_changeMemory S r = ((0 : Int32), S)) (h4 : f_Prc_changeRegister S r = ((0 : Int32), S)) (h5 : f_Prc_transfer S r = ((0 : Int32), S)) (h6 : f_Prc_push S r = ((0 : Int32), S)) (h7 : f_Prc_pull S r = ((0 : Int32), S)) (h8 : f_Prc_branch S r = ((0 : Int32), S)) (h9 : f_Prc_jump S r = ((0 : Int32), S)) (k : (f_Prc_changeFlags S r).1 = (1 : Int32)) : cT S r = pr (f_Prc_changeFlags S r).2 12 (0 : Int32) := by
  unfold cT
  rw [h0, bn0, h1, bn0, h2, bn0, h3, bn0, h4, bn0, h5, bn0, h6, bn0, h7, bn0, h8, bn0, h9, bn0, bn1 k]
theorem cT_11 {S : Sc} {r : Int32} (h0 : f_Prc_useAccumulator S r = ((0 : Int32), S)) (h1 : f_Prc_useIndex S r = ((0 : Int32), S)) (h2 : f_Prc_storeZero S r = ((0 : Int32), S)) (h3 : f_Prc_changeMemory S r = ((0 : Int32), S)) (h4 : f_Prc_changeRegister S r = ((0 : Int32), S)) (h5 : f_Prc_transfer S r = ((0 : Int32), S)) (h6 : f_Prc_push S r = ((0 : Int32), S)) (h7 : f_Prc_pull S r = ((0 : Int32), S)) (h8 : f_Prc_branch S r = ((0 : Int32), S)) (h9 : f_Prc_jump S r = ((0 : Int32), S)) (h10 : f_Prc_changeFlags S r = ((0 : Int32), S)) (k : (f_Prc_moveBlock S r).1 = (1 : Int32)) : cT S r = pr (f_Prc_moveBlock S r).2 12 (0 : Int32) := by
  unfold cT
  rw [h0, bn0, h1, bn0, h2, bn0, h3, bn0, h4, bn0, h5, bn0, h6, bn0, h7, bn0, h8, bn0, h9, bn0, h10, bn0, bn1 k]
theorem cT_none {S : Sc} {r : Int32} (h0 : f_Prc_useAccumulator S r = ((0 : Int32), S)) (h1 : f_Prc_useIndex S r = ((0 : Int32), S)) (h2 : f_Prc_storeZero S r = ((0 : Int32), S)) (h3 : f_Prc_changeMemory S r = ((0 : Int32), S)) (h4 : f_Prc_changeRegister S r = ((0 : Int32), S)) (h5 : f_Prc_transfer S r = ((0 : Int32), S)) (h6 : f_Prc_push S r = ((0 : Int32), S)) (h7 : f_Prc_pull S r = ((0 : Int32), S)) (h8 : f_Prc_branch S r = ((0 : Int32), S)) (h9 : f_Prc_jump S r = ((0 : Int32), S)) (h10 : f_Prc_changeFlags S r = ((0 : Int32), S)) (h11 : f_Prc_moveBlock S r = ((0 : Int32), S)) : cT S r = pr S 12 (1 : Int32) := by
  unfold cT
  rw [h0, bn0, h1, bn0, h2, bn0, h3, bn0, h4, bn0, h5, bn0, h6, bn0, h7, bn0, h8, bn0, h9, bn0, h10, bn0, h11, bn0]
theorem mC_0 {S : Sc} {r : Int32}  (k : (f_Mdl_change S r).1 = (1 : Int32)) : mC S r = pr (f_Mdl_change S r).2 9 (0 : Int32) := by
  unfold mC
  rw [bn1 k]
theorem mC_1 {S : Sc} {r : Int32} (h0 : f_Mdl_change S r = ((0 : Int32), S)) (k : (f_Mdl_index S r).1 = (1 : Int32)) : mC S r = pr (f_Mdl_index S r).2 9 (0 : Int32) := by
  unfold mC
  rw [h0, bn0, bn1 k]
theorem mC_2 {S : Sc} {r : Int32} (h0 : f_Mdl_change S r = ((0 : Int32), S)) (h1 : f_Mdl_index S r = ((0 : Int32), S)) (k : (f_Mdl_transfer S r).1 = (1 : Int32)) : mC S r = pr (f_Mdl_transfer S r).2 9 (0 : Int32) := by
  unfold mC
  rw [h0, bn0, h1, bn0, bn1 k]
theorem mC_3 {S : Sc} {r : Int32} (h0 : f_Mdl_change S r = ((0 : Int32), S)) (h1 : f_Mdl_index S r = ((0 : Int32), S)) (h2 : f_Mdl_transfer S r = ((0 : Int32), S)) (k : (f_Mdl_stack S r).1 = (1 : Int32)) : mC S r = pr (f_Mdl_stack S r).2 9 (0 : Int32) := by
  unfold mC
  rw [h0, bn0, h1, bn0, h2, bn0, bn1 k]
theorem mC_4 {S : Sc} {r : Int32} (h0 : f_Mdl_change S r = ((0 : Int32), S)) (h1 : f_Mdl_index S r = ((0 : Int32), S)) (h2 : f_Mdl_transfer S r = ((0 : Int32), S)) (h3 : f_Mdl_stack S r = ((0 : Int32), S)) (k : (f_Mdl_jump S r).1 = (1 : Int32)) : mC S r = pr (f_Mdl_jump S r).2 9 (0 : Int32) := by
  unfold mC
  rw [h0, bn0, h1, bn0, h2, bn0, h3, bn0, bn1 k]
theorem mC_5 {S : Sc} {r : Int32} (h0 : f_Mdl_change S r = ((0 : Int32), S)) (h1 : f_Mdl_index S r = ((0 : Int32), S)) (h2 : f_Mdl_transfer S r = ((0 : Int32), S)) (h3 : f_Mdl_stack S r = ((0 : Int32), S)) (h4 : f_Mdl_jump S r = ((0 : Int32), S)) (k : (f_Mdl_other S r).1 = (1 : Int32)) : mC S r = pr (f_Mdl_other S r).2 9 (0 : Int32) := by
  unfold mC
  rw [h0, bn0, h1, bn0, h2, bn0, h3, bn0, h4, bn0, bn1 k]
theorem mC_none {S : Sc} {r : Int32} (h0 : f_Mdl_change S r = ((0 : Int32), S)) (h1 : f_Mdl_index S r = ((0 : Int32), S)) (h2 : f_Mdl_transfer S r = ((0 : Int32), S)) (h3 : f_Mdl_stack S r = ((0 : Int32), S)) (h4 : f_Mdl_jump S r = ((0 : Int32), S)) (h5 : f_Mdl_other S r = ((0 : Int32), S)) : mC S r = pr S 9 (1 : Int32) := by
  unfold mC
  rw [h0, bn0, h1, bn0, h2, bn0, h3, bn0, h4, bn0, h5, bn0]
theorem mA_0 {S : Sc} {r : Int32}  (k : (f_Mdl_arithmetic S r).1 = (1 : Int32)) : mA S r = pr (f_Mdl_arithmetic S r).2 9 (0 : Int32) := by
  unfold mA
  rw [bn1 k]
theorem mA_none {S : Sc} {r : Int32} (h0 : f_Mdl_arithmetic S r = ((0 : Int32), S)) : mA S r = pr S 9 (1 : Int32) := by
  unfold mA
  rw [h0, bn0]
