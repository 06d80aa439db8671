theorem WN_fr {S S2 T : Sc} (h : RR S T) (e : S2.1 8 = S.1 8) : WN (f_Reg_wideA S2) (f_Mdl_is T 32) := WN_p (S := S2) (e.trans (RRe_8 h)) 32
theorem WN_fi {S S2 T : Sc} (h : RR S T) (e : S2.1 8 = S.1 8) : WN (f_Reg_wideIndex S2) (f_Mdl_is T 16) := WN_p (S := S2) (e.trans (RRe_8 h)) 16
theorem acc_eq {S T : Sc} (h : RR S T) : f_Reg_a S = f_Mdl_accumulator T := by
  show S.1 0 &&& f_Reg_maskOf (f_Reg_wideA S) = if f_Mdl_is T 32 = (0 : Int32) then T.1 0 else (T.1 0 &&& (255 : Int32))
  rcases WN_A h with ⟨a, b⟩ | ⟨a, b⟩
  · rw [a, b, if_pos (rfl : (0 : Int32) = 0)]
    show S.1 0 &&& 65535 = T.1 0
    rw [RRr_0 h, RRe_0 h]
  · rw [a, b, if_neg (by decide : ¬ (1 : Int32) = 0), RRe_0 h]
    rfl
theorem acc_255 {S T : Sc} (h : RR S T) : S.1 0 &&& 255 = f_Mdl_accumulator T &&& 255 := by
  rw [← acc_eq h]
  show S.1 0 &&& 255 = (S.1 0 &&& f_Reg_maskOf (f_Reg_wideA S)) &&& 255
  rcases WN_A h with ⟨a, b⟩ | ⟨a, b⟩
  · rw [a, Int32.and_assoc]; rfl
  · rw [a, Int32.and_assoc]; rfl
theorem acc_w {S T : Sc} (h : RR S T) {n : Int32} (hn : f_Mdl_is T 32 = n) (z : n = 0) : S.1 0 = f_Mdl_accumulator T := by
  show S.1 0 = if f_Mdl_is T 32 = (0 : Int32) then T.1 0 else (T.1 0 &&& (255 : Int32))
  rw [hn, if_pos z, RRe_0 h]
theorem has_is {S T : Sc} (h : RR S T) (f : Int32) : f_Reg_has S f = f_Mdl_is T f := by
  unfold f_Reg_has f_Mdl_is
  rw [RRe_8 h]
theorem s_setA2 {S T : Sc} {v v2 n : Int32} (h : RR S T) (hw : WN (f_Reg_wideA S) n) (e : v = v2) : RR (f_Reg_loadA S v) (f_Mdl_setAccumulator (f_Mdl_result T v2 n).2 (f_Mdl_result T v2 n).1) := by subst e; exact s_setA h hw
theorem s_loadX2 {S T : Sc} {v v2 n : Int32} (h : RR S T) (hw : WN (f_Reg_wideIndex S) n) (e : v = v2) : RR (f_Reg_loadX S v) (pr (f_Mdl_result T v2 n).2 1 (f_Mdl_result T v2 n).1) := by subst e; exact s_loadX h hw
theorem s_loadY2 {S T : Sc} {v v2 n : Int32} (h : RR S T) (hw : WN (f_Reg_wideIndex S) n) (e : v = v2) : RR (f_Reg_loadY S v) (pr (f_Mdl_result T v2 n).2 2 (f_Mdl_result T v2 n).1) := by subst e; exact s_loadY h hw
theorem s_cmp2 {S T : Sc} {x x2 v v2 w n : Int32} (h : RR S T) (hw : WN w n) (e : x = x2) (e2 : v = v2) : RR (f_Prc_compare S x v w) (f_Mdl_compare T x2 v2 n) := by subst e; subst e2; exact s_cmp h hw
theorem fr_rv {S : Sc} {c w n : Int32} (hw : WN w n) : (f_Bus_readValue S c w).2.1 8 = S.1 8 := by
  rcases hw with ⟨rfl, rfl⟩ | ⟨rfl, rfl⟩ <;> rfl
theorem fr_nv {S : Sc} {w n : Int32} (hw : WN w n) : (f_Opd_nextValue S w).2.1 8 = S.1 8 := by
  rcases hw with ⟨rfl, rfl⟩ | ⟨rfl, rfl⟩ <;> rfl
theorem rg_rv {S : Sc} {c w n : Int32} (hw : WN w n) : (f_Bus_readValue S c w).1 &&& f_Reg_maskOf w = (f_Bus_readValue S c w).1 := by
  rcases hw with ⟨rfl, rfl⟩ | ⟨rfl, rfl⟩
  · exact w16 (m8 _) (m8 _)
  · exact m8 _
theorem pf_bit (S : Sc) (b : Int32) : (f_Reg_putFlag S 1 b).1 8 &&& 32 = S.1 8 &&& 32 := by
  unfold f_Reg_putFlag
  split
  · show (S.1 8 &&& _) &&& 32 = _
    rw [Int32.and_assoc]; rfl
  · show (S.1 8 ||| 1) &&& 32 = _
    rw [and_or_r]
    exact Int32.or_zero
theorem pf_bit2 (S : Sc) (b : Int32) : (f_Reg_putFlag S 64 b).1 8 &&& 32 = S.1 8 &&& 32 := by
  unfold f_Reg_putFlag
  split
  · show (S.1 8 &&& _) &&& 32 = _
    rw [Int32.and_assoc]; rfl
  · show (S.1 8 ||| 64) &&& 32 = _
    rw [and_or_r]
    exact Int32.or_zero
theorem WN_b {S S2 T : Sc} (h : RR S T) (e : S2.1 8 &&& 32 = S.1 8 &&& 32) : WN (f_Reg_wideA S2) (f_Mdl_is T 32) := by
  have k := WN_A h
  unfold f_Reg_wideA at k ⊢
  rw [e]
  exact k
theorem vflag (a v s g : Int32) : (((a ^^^ v) ^^^ (-1 : Int32)) &&& (a ^^^ s)) &&& g = ((a ^^^ s) &&& (v ^^^ s)) &&& g := by
  apply b_ext
  intro i hi
  rw [b_and, b_and, b_xor, b_xor, b_xor, b_and, b_and, b_xor, b_xor, b_m1 i hi]
  cases bt a i <;> cases bt v i <;> cases bt s i <;> rfl
theorem carry {S T : Sc} (h : RR S T) : (f_Mdl_is T 1 = 0 → S.1 8 &&& 1 = 0) ∧ (¬ f_Mdl_is T 1 = 0 → S.1 8 &&& 1 = 1) := by
  unfold f_Mdl_is
  rw [← RRe_8 h, t_b1]
  cases bt (S.1 8) 0
  · exact ⟨fun _ => rfl, fun q => absurd rfl q⟩
  · exact ⟨fun q => absurd q (by decide), fun _ => rfl⟩
theorem two_mul (v : Int32) : (2 : Int32) * v = v <<< ((1 : Int32) &&& 31) := by
  apply Int32.toBitVec_inj.mp
  rw [Int32.toBitVec_mul, Int32.toBitVec_shiftLeft]
  show (2#32) * v.toBitVec = v.toBitVec <<< ((nI 1 &&& 31).toBitVec.smod 32).toNat
  rw [s_l 1 (by decide)]
  apply BitVec.eq_of_toNat_eq
  rw [BitVec.toNat_mul, BitVec.toNat_shiftLeft, Nat.shiftLeft_eq]
  show (2 * v.toBitVec.toNat) % _ = _
  rw [Nat.mul_comm]
theorem bt_nI (k : Nat) {i : Nat} (hi : i < 32) : bt (nI k) i = k.testBit i := by
  unfold bt
  show (BitVec.ofNat 32 k).getLsbD i = _
  rw [BitVec.getLsbD_ofNat, decide_eq_true hi, Bool.true_and]
theorem half_r {n : Nat} (h : n < 65536) : nI n >>> ((1 : Int32) &&& 31) = nI (n / 2) := by
  apply b_ext
  intro i hi
  rw [b_sshr1 _ hi, bt_nI (n / 2) hi]
  by_cases z : 1 + i < 32
  · rw [if_pos z, bt_nI n z, Nat.add_comm 1 i, Nat.testBit_succ]
  · rw [if_neg z, bt_nI n (by decide)]
    have e : i = 31 := by omega
    subst e
    rw [Nat.testBit_lt_two_pow (Nat.lt_of_lt_of_le h (by decide)), Nat.testBit_lt_two_pow (Nat.lt_of_le_of_lt (Nat.div_le_self n 2) (Nat.lt_of_lt_of_le h (by decide)))]
theorem half_l {n : Nat} (h : n < 65536) : nI n / 2 = nI (n / 2) := by
  apply Int32.toInt_inj.mp
  rw [Int32.toInt_div, nI_toInt (by omega), nI_toInt (by omega)]
  have e2 : (2 : Int32).toInt = ((2 : Nat) : Int) := by decide
  rw [e2, ← Int.ofNat_tdiv]
  exact Int.bmod_eq_of_le (by omega) (by omega)
theorem half {v : Int32} (h : r16 v) : v / 2 = v >>> ((1 : Int32) &&& 31) := by
  obtain ⟨n, hn, rfl⟩ := r16_nI h
  rw [half_l hn, half_r hn]
theorem shl1_1 (v : Int32) : (v <<< ((1 : Int32) &&& 31)) + 1 = (v <<< ((1 : Int32) &&& 31)) ||| 1 := add_or (by
  apply b_ext
  intro i hi
  rw [b_and, b_shl1 v hi, b_1 i hi, b_0]
  by_cases z : i = 0
  · subst z; rfl
  · rw [decide_eq_false z, Bool.and_false])
theorem sr_16 {v : Int32} (h : r16 v) : (v >>> ((1 : Int32) &&& 31)) &&& 65535 = v >>> ((1 : Int32) &&& 31) := bt_r16 fun i hi z => by
  rw [b_sshr1 v hi]
  split
  · exact r16_bt h (by omega)
  · exact r16_bt h (by omega)
theorem sr_8 {v : Int32} (h : r8 v) : (v >>> ((1 : Int32) &&& 31)) &&& 255 = v >>> ((1 : Int32) &&& 31) := bt_r8 fun i hi z => by
  rw [b_sshr1 v hi]
  split
  · exact r8_bt h (by omega)
  · exact r8_bt h (by omega)
theorem sr_t16 {v : Int32} (h : r16 v) : (v >>> ((1 : Int32) &&& 31)) + 32768 = (v >>> ((1 : Int32) &&& 31)) ||| 32768 := add_or (by
  apply b_ext
  intro i hi
  rw [b_and, b_sshr1 v hi, b_0]
  by_cases z : i < 15
  · rw [(by decide +kernel : ∀ i, i < 15 → bt 32768 i = false) i z, Bool.and_false]
  · split
    · rw [r16_bt h (by omega), Bool.false_and]
    · rw [r16_bt h (by omega), Bool.false_and])
theorem sr_t8 {v : Int32} (h : r8 v) : (v >>> ((1 : Int32) &&& 31)) + 128 = (v >>> ((1 : Int32) &&& 31)) ||| 128 := add_or (by
  apply b_ext
  intro i hi
  rw [b_and, b_sshr1 v hi, b_0]
  by_cases z : i < 7
  · rw [(by decide +kernel : ∀ i, i < 7 → bt 128 i = false) i z, Bool.and_false]
  · split
    · rw [r8_bt h (by omega), Bool.false_and]
    · rw [r8_bt h (by omega), Bool.false_and])
theorem fl_fr (T : Sc) (f b : Int32) : (f_Mdl_flag T f b).1 14 = T.1 14 ∧ (f_Mdl_flag T f b).1 15 = T.1 15 := by
  unfold f_Mdl_flag
  split
  · exact ⟨rfl, rfl⟩
  · exact ⟨rfl, rfl⟩
theorem res_fl (T : Sc) (v : Int32) {w n : Int32} (hw : WN w n) : ∃ a b : Int32, (f_Mdl_result T v n).2 = f_Mdl_flag (f_Mdl_flag T 128 a) 2 b := by
  rcases hw with ⟨rfl, rfl⟩ | ⟨rfl, rfl⟩
  · unfold f_Mdl_result
    rw [if_pos (rfl : (0 : Int32) = 0)]
    by_cases a : (f_Mdl_cut v 0 &&& (32768 : Int32)) = (0 : Int32)
    · rw [if_pos a]
      refine ⟨0, if f_Mdl_cut v 0 = (0 : Int32) then 1 else 0, ?_⟩
      show (if f_Mdl_cut v 0 = (0 : Int32) then _ else _ : Int32 × Sc).2 = _
      by_cases b : f_Mdl_cut v 0 = (0 : Int32)
      · rw [if_pos b, if_pos b]; rfl
      · rw [if_neg b, if_neg b]; rfl
    · rw [if_neg a]
      refine ⟨1, if f_Mdl_cut v 0 = (0 : Int32) then 1 else 0, ?_⟩
      show (if f_Mdl_cut v 0 = (0 : Int32) then _ else _ : Int32 × Sc).2 = _
      by_cases b : f_Mdl_cut v 0 = (0 : Int32)
      · rw [if_pos b, if_pos b]; rfl
      · rw [if_neg b, if_neg b]; rfl
  · unfold f_Mdl_result
    rw [if_neg (by decide : ¬ (1 : Int32) = 0)]
    by_cases a : (f_Mdl_cut v 1 &&& (128 : Int32)) = (0 : Int32)
    · rw [if_pos a]
      refine ⟨0, if f_Mdl_cut v 1 = (0 : Int32) then 1 else 0, ?_⟩
      show (if f_Mdl_cut v 1 = (0 : Int32) then _ else _ : Int32 × Sc).2 = _
      by_cases b : f_Mdl_cut v 1 = (0 : Int32)
      · rw [if_pos b, if_pos b]; rfl
      · rw [if_neg b, if_neg b]; rfl
    · rw [if_neg a]
      refine ⟨1, if f_Mdl_cut v 1 = (0 : Int32) then 1 else 0, ?_⟩
      show (if f_Mdl_cut v 1 = (0 : Int32) then _ else _ : Int32 × Sc).2 = _
      by_cases b : f_Mdl_cut v 1 = (0 : Int32)
      · rw [if_pos b, if_pos b]; rfl
      · rw [if_neg b, if_neg b]; rfl
theorem res_fr (T : Sc) (v : Int32) {w n : Int32} (hw : WN w n) : (f_Mdl_result T v n).2.1 14 = T.1 14 ∧ (f_Mdl_result T v n).2.1 15 = T.1 15 := by
  obtain ⟨a, b, e⟩ := res_fl T v hw
  rw [e, (fl_fr _ 2 b).1, (fl_fr _ 2 b).2]
  exact fl_fr T 128 a
theorem ld_fr (T : Sc) {w n : Int32} (hw : WN w n) : (f_Mdl_load T n).2.1 14 = T.1 14 ∧ (f_Mdl_load T n).2.1 15 = T.1 15 := by
  rcases hw with ⟨rfl, rfl⟩ | ⟨rfl, rfl⟩
  · exact ⟨rfl, rfl⟩
  · exact ⟨rfl, rfl⟩
def SC (S T : Sc) (v w n kc km : Int32) : Prop := ∃ (T2 : Sc) (E : Int32), f_Mdl_changed T km v n = f_Mdl_result T2 E n ∧ RR (f_Prc_changed S kc v w).2 T2 ∧ (f_Prc_changed S kc v w).1 = E &&& f_Reg_maskOf w ∧ (f_Prc_changed S kc v w).2.1 8 &&& 32 = S.1 8 &&& 32 ∧ T2.1 14 = T.1 14 ∧ T2.1 15 = T.1 15
theorem cc_0 (S : Sc) (x2 x3 : Int32) : f_Prc_changed S (0 : Int32) x2 x3 = if (x2 &&& (f_Reg_signOf x3)) = (0 : Int32) then (bs (f_Reg_putFlag S (1 : Int32) (0 : Int32)) (fun S2 => (((x2 <<< ((1 : Int32) &&& 31)) &&& (f_Reg_maskOf x3)), S2))) else (bs (f_Reg_putFlag S (1 : Int32) (1 : Int32)) (fun S4 => (((x2 <<< ((1 : Int32) &&& 31)) &&& (f_Reg_maskOf x3)), S4))) := rfl
theorem mc_2 (T : Sc) (x2 x3 : Int32) : f_Mdl_changed T (2 : Int32) x2 x3 = if x3 = (0 : Int32) then (if (f_Mdl_is T (1 : Int32)) = (0 : Int32) then (if (x2 &&& (32768 : Int32)) = (0 : Int32) then (bs (f_Mdl_flag T (1 : Int32) (0 : Int32)) (fun S4 => bn (f_Mdl_result S4 (((2 : Int32) * x2) + (0 : Int32)) x3) (fun r6 S7 => (r6, S7)))) else (bs (f_Mdl_flag T (1 : Int32) (1 : Int32)) (fun S9 => bn (f_Mdl_result S9 (((2 : Int32) * x2) + (0 : Int32)) x3) (fun r11 S12 => (r11, S12))))) else (if (x2 &&& (32768 : Int32)) = (0 : Int32) then (bs (f_Mdl_flag T (1 : Int32) (0 : Int32)) (fun S15 => bn (f_Mdl_result S15 (((2 : Int32) * x2) + (0 : Int32)) x3) (fun r17 S18 => (r17, S18)))) else (bs (f_Mdl_flag T (1 : Int32) (1 : Int32)) (fun S20 => bn (f_Mdl_result S20 (((2 : Int32) * x2) + (0 : Int32)) x3) (fun r22 S23 => (r22, S23)))))) else (if (f_Mdl_is T (1 : Int32)) = (0 : Int32) then (if (x2 &&& (128 : Int32)) = (0 : Int32) then (bs (f_Mdl_flag T (1 : Int32) (0 : Int32)) (fun S27 => bn (f_Mdl_result S27 (((2 : Int32) * x2) + (0 : Int32)) x3) (fun r29 S30 => (r29, S30)))) else (bs (f_Mdl_flag T (1 : Int32) (1 : Int32)) (fun S32 => bn (f_Mdl_result S32 (((2 : Int32) * x2) + (0 : Int32)) x3) (fun r34 S35 => (r34, S35))))) else (if (x2 &&& (128 : Int32)) = (0 : Int32) then (bs (f_Mdl_flag T (1 : Int32) (0 : Int32)) (fun S38 => bn (f_Mdl_result S38 (((2 : Int32) * x2) + (0 : Int32)) x3) (fun r40 S41 => (r40, S41)))) else (bs (f_Mdl_flag T (1 : Int32) (1 : Int32)) (fun S43 => bn (f_Mdl_result S43 (((2 : Int32) * x2) + (0 : Int32)) x3) (fun r45 S46 => (r45, S46)))))) := rfl
theorem sc_0 {S T : Sc} {v w n : Int32} (h : RR S T) (hw : WN w n) (hv : v &&& f_Reg_maskOf w = v) : SC S T v w n 0 2 := by
  have hk := has_is h 1
  rcases hw with ⟨rfl, rfl⟩ | ⟨rfl, rfl⟩
  · have hv : v &&& (65535 : Int32) = v := hv
    have hv16 : r16 v := hv
    by_cases k : f_Mdl_is T 1 = (0 : Int32)
    · by_cases a : (v &&& (32768 : Int32)) = (0 : Int32)
      · have C : f_Prc_changed S 0 v 1 = (((v <<< ((1 : Int32) &&& 31)) &&& f_Reg_maskOf 1), f_Reg_putFlag S 1 0) := by
          rw [cc_0, if_pos (show (v &&& f_Reg_signOf 1) = (0 : Int32) from a)]
          rfl
        have M : f_Mdl_changed T 2 v 0 = f_Mdl_result (f_Mdl_flag T 1 0) (((2 : Int32) * v) + (0 : Int32)) 0 := by
          rw [mc_2, if_pos (rfl : (0 : Int32) = 0), if_pos k, if_pos a]; rfl
        unfold SC; rw [C]
        refine ⟨_, _, M, s_flag h 1 0 (by decide), ?_, pf_bit S 0, rfl, rfl⟩
        show ((v <<< ((1 : Int32) &&& 31)) &&& (65535 : Int32)) = (((2 : Int32) * v) + (0 : Int32)) &&& (65535 : Int32)
        rw [Int32.add_zero, two_mul]
      · have C : f_Prc_changed S 0 v 1 = (((v <<< ((1 : Int32) &&& 31)) &&& f_Reg_maskOf 1), f_Reg_putFlag S 1 1) := by
          rw [cc_0, if_neg (show ¬ (v &&& f_Reg_signOf 1) = (0 : Int32) from a)]
          rfl
        have M : f_Mdl_changed T 2 v 0 = f_Mdl_result (f_Mdl_flag T 1 1) (((2 : Int32) * v) + (0 : Int32)) 0 := by
          rw [mc_2, if_pos (rfl : (0 : Int32) = 0), if_pos k, if_neg a]; rfl
        unfold SC; rw [C]
        refine ⟨_, _, M, s_flag h 1 1 (by decide), ?_, pf_bit S 1, rfl, rfl⟩
        show ((v <<< ((1 : Int32) &&& 31)) &&& (65535 : Int32)) = (((2 : Int32) * v) + (0 : Int32)) &&& (65535 : Int32)
        rw [Int32.add_zero, two_mul]
    · by_cases a : (v &&& (32768 : Int32)) = (0 : Int32)
      · have C : f_Prc_changed S 0 v 1 = (((v <<< ((1 : Int32) &&& 31)) &&& f_Reg_maskOf 1), f_Reg_putFlag S 1 0) := by
          rw [cc_0, if_pos (show (v &&& f_Reg_signOf 1) = (0 : Int32) from a)]
          rfl
        have M : f_Mdl_changed T 2 v 0 = f_Mdl_result (f_Mdl_flag T 1 0) (((2 : Int32) * v) + (0 : Int32)) 0 := by
          rw [mc_2, if_pos (rfl : (0 : Int32) = 0), if_neg k, if_pos a]; rfl
        unfold SC; rw [C]
        refine ⟨_, _, M, s_flag h 1 0 (by decide), ?_, pf_bit S 0, rfl, rfl⟩
        show ((v <<< ((1 : Int32) &&& 31)) &&& (65535 : Int32)) = (((2 : Int32) * v) + (0 : Int32)) &&& (65535 : Int32)
        rw [Int32.add_zero, two_mul]
      · have C : f_Prc_changed S 0 v 1 = (((v <<< ((1 : Int32) &&& 31)) &&& f_Reg_maskOf 1), f_Reg_putFlag S 1 1) := by
          rw [cc_0, if_neg (show ¬ (v &&& f_Reg_signOf 1) = (0 : Int32) from a)]
          rfl
        have M : f_Mdl_changed T 2 v 0 = f_Mdl_result (f_Mdl_flag T 1 1) (((2 : Int32) * v) + (0 : Int32)) 0 := by
          rw [mc_2, if_pos (rfl : (0 : Int32) = 0), if_neg k, if_neg a]; rfl
        unfold SC; rw [C]
        refine ⟨_, _, M, s_flag h 1 1 (by decide), ?_, pf_bit S 1, rfl, rfl⟩
        show ((v <<< ((1 : Int32) &&& 31)) &&& (65535 : Int32)) = (((2 : Int32) * v) + (0 : Int32)) &&& (65535 : Int32)
        rw [Int32.add_zero, two_mul]
  · have hv : v &&& (255 : Int32) = v := hv
    have hv16 : r16 v := r8_16 hv
    by_cases k : f_Mdl_is T 1 = (0 : Int32)
    · by_cases a : (v &&& (128 : Int32)) = (0 : Int32)
      · have C : f_Prc_changed S 0 v 0 = (((v <<< ((1 : Int32) &&& 31)) &&& f_Reg_maskOf 0), f_Reg_putFlag S 1 0) := by
          rw [cc_0, if_pos (show (v &&& f_Reg_signOf 0) = (0 : Int32) from a)]
          rfl
        have M : f_Mdl_changed T 2 v 1 = f_Mdl_result (f_Mdl_flag T 1 0) (((2 : Int32) * v) + (0 : Int32)) 1 := by
          rw [mc_2, if_neg (by decide : ¬ (1 : Int32) = 0), if_pos k, if_pos a]; rfl
        unfold SC; rw [C]
        refine ⟨_, _, M, s_flag h 1 0 (by decide), ?_, pf_bit S 0, rfl, rfl⟩
        show ((v <<< ((1 : Int32) &&& 31)) &&& (255 : Int32)) = (((2 : Int32) * v) + (0 : Int32)) &&& (255 : Int32)
        rw [Int32.add_zero, two_mul]
      · have C : f_Prc_changed S 0 v 0 = (((v <<< ((1 : Int32) &&& 31)) &&& f_Reg_maskOf 0), f_Reg_putFlag S 1 1) := by
          rw [cc_0, if_neg (show ¬ (v &&& f_Reg_signOf 0) = (0 : Int32) from a)]
          rfl
        have M : f_Mdl_changed T 2 v 1 = f_Mdl_result (f_Mdl_flag T 1 1) (((2 : Int32) * v) + (0 : Int32)) 1 := by
          rw [mc_2, if_neg (by decide : ¬ (1 : Int32) = 0), if_pos k, if_neg a]; rfl
        unfold SC; rw [C]
        refine ⟨_, _, M, s_flag h 1 1 (by decide), ?_, pf_bit S 1, rfl, rfl⟩
        show ((v <<< ((1 : Int32) &&& 31)) &&& (255 : Int32)) = (((2 : Int32) * v) + (0 : Int32)) &&& (255 : Int32)
        rw [Int32.add_zero, two_mul]
    · by_cases a : (v &&& (128 : Int32)) = (0 : Int32)
      · have C : f_Prc_changed S 0 v 0 = (((v <<< ((1 : Int32) &&& 31)) &&& f_Reg_maskOf 0), f_Reg_putFlag S 1 0) := by
          rw [cc_0, if_pos (show (v &&& f_Reg_signOf 0) = (0 : Int32) from a)]
          rfl
        have M : f_Mdl_changed T 2 v 1 = f_Mdl_result (f_Mdl_flag T 1 0) (((2 : Int32) * v) + (0 : Int32)) 1 := by
          rw [mc_2, if_neg (by decide : ¬ (1 : Int32) = 0), if_neg k, if_pos a]; rfl
        unfold SC; rw [C]
        refine ⟨_, _, M, s_flag h 1 0 (by decide), ?_, pf_bit S 0, rfl, rfl⟩
        show ((v <<< ((1 : Int32) &&& 31)) &&& (255 : Int32)) = (((2 : Int32) * v) + (0 : Int32)) &&& (255 : Int32)
        rw [Int32.add_zero, two_mul]
      · have C : f_Prc_changed S 0 v 0 = (((v <<< ((1 : Int32) &&& 31)) &&& f_Reg_maskOf 0), f_Reg_putFlag S 1 1) := by
          rw [cc_0, if_neg (show ¬ (v &&& f_Reg_signOf 0) = (0 : Int32) from a)]
          rfl
        have M : f_Mdl_changed T 2 v 1 = f_Mdl_result (f_Mdl_flag T 1 1) (((2 : Int32) * v) + (0 : Int32)) 1 := by
          rw [mc_2, if_neg (by decide : ¬ (1 : Int32) = 0), if_neg k, if_neg a]; rfl
        unfold SC; rw [C]
        refine ⟨_, _, M, s_flag h 1 1 (by decide), ?_, pf_bit S 1, rfl, rfl⟩
        show ((v <<< ((1 : Int32) &&& 31)) &&& (255 : Int32)) = (((2 : Int32) * v) + (0 : Int32)) &&& (255 : Int32)
        rw [Int32.add_zero, two_mul]
theorem cc_1 (S : Sc) (x2 x3 : Int32) : f_Prc_changed S (1 : Int32) x2 x3 = if (x2 &&& (f_Reg_signOf x3)) = (0 : Int32) then (bs (f_Reg_putFlag S (1 : Int32) (0 : Int32)) (fun S2 => if (f_Reg_has S (1 : Int32)) = (0 : Int32) then (((((x2 <<< ((1 : Int32) &&& 31)) &&& (f_Reg_maskOf x3)) ||| (0 : Int32)), S2)) else (((((x2 <<< ((1 : Int32) &&& 31)) &&& (f_Reg_maskOf x3)) ||| (1 : Int32)), S2)))) else (bs (f_Reg_putFlag S (1 : Int32) (1 : Int32)) (fun S5 => if (f_Reg_has S (1 : Int32)) = (0 : Int32) then (((((x2 <<< ((1 : Int32) &&& 31)) &&& (f_Reg_maskOf x3)) ||| (0 : Int32)), S5)) else (((((x2 <<< ((1 : Int32) &&& 31)) &&& (f_Reg_maskOf x3)) ||| (1 : Int32)), S5)))) := rfl
theorem mc_3 (T : Sc) (x2 x3 : Int32) : f_Mdl_changed T (3 : Int32) x2 x3 = if x3 = (0 : Int32) then (if (f_Mdl_is T (1 : Int32)) = (0 : Int32) then (if (x2 &&& (32768 : Int32)) = (0 : Int32) then (bs (f_Mdl_flag T (1 : Int32) (0 : Int32)) (fun S4 => bn (f_Mdl_result S4 (((2 : Int32) * x2) + (0 : Int32)) x3) (fun r6 S7 => (r6, S7)))) else (bs (f_Mdl_flag T (1 : Int32) (1 : Int32)) (fun S9 => bn (f_Mdl_result S9 (((2 : Int32) * x2) + (0 : Int32)) x3) (fun r11 S12 => (r11, S12))))) else (if (x2 &&& (32768 : Int32)) = (0 : Int32) then (bs (f_Mdl_flag T (1 : Int32) (0 : Int32)) (fun S15 => bn (f_Mdl_result S15 (((2 : Int32) * x2) + (1 : Int32)) x3) (fun r17 S18 => (r17, S18)))) else (bs (f_Mdl_flag T (1 : Int32) (1 : Int32)) (fun S20 => bn (f_Mdl_result S20 (((2 : Int32) * x2) + (1 : Int32)) x3) (fun r22 S23 => (r22, S23)))))) else (if (f_Mdl_is T (1 : Int32)) = (0 : Int32) then (if (x2 &&& (128 : Int32)) = (0 : Int32) then (bs (f_Mdl_flag T (1 : Int32) (0 : Int32)) (fun S27 => bn (f_Mdl_result S27 (((2 : Int32) * x2) + (0 : Int32)) x3) (fun r29 S30 => (r29, S30)))) else (bs (f_Mdl_flag T (1 : Int32) (1 : Int32)) (fun S32 => bn (f_Mdl_result S32 (((2 : Int32) * x2) + (0 : Int32)) x3) (fun r34 S35 => (r34, S35))))) else (if (x2 &&& (128 : Int32)) = (0 : Int32) then (bs (f_Mdl_flag T (1 : Int32) (0 : Int32)) (fun S38 => bn (f_Mdl_result S38 (((2 : Int32) * x2) + (1 : Int32)) x3) (fun r40 S41 => (r40, S41)))) else (bs (f_Mdl_flag T (1 : Int32) (1 : Int32)) (fun S43 => bn (f_Mdl_result S43 (((2 : Int32) * x2) + (1 : Int32)) x3) (fun r45 S46 => (r45, S46)))))) := rfl
theorem sc_1 {S T : Sc} {v w n : Int32} (h : RR S T) (hw : WN w n) (hv : v &&& f_Reg_maskOf w = v) : SC S T v w n 1 3 := by
  have hk := has_is h 1
  rcases hw with ⟨rfl, rfl⟩ | ⟨rfl, rfl⟩
  · have hv : v &&& (65535 : Int32) = v := hv
    have hv16 : r16 v := hv
    by_cases k : f_Mdl_is T 1 = (0 : Int32)
    · by_cases a : (v &&& (32768 : Int32)) = (0 : Int32)
      · have C : f_Prc_changed S 1 v 1 = ((((v <<< ((1 : Int32) &&& 31)) &&& f_Reg_maskOf 1) ||| (0 : Int32)), f_Reg_putFlag S 1 0) := by
          rw [cc_1, if_pos (show (v &&& f_Reg_signOf 1) = (0 : Int32) from a)]
          show (if f_Reg_has S 1 = (0 : Int32) then _ else _) = _
          rw [hk, if_pos k]
        have M : f_Mdl_changed T 3 v 0 = f_Mdl_result (f_Mdl_flag T 1 0) (((2 : Int32) * v) + (0 : Int32)) 0 := by
          rw [mc_3, if_pos (rfl : (0 : Int32) = 0), if_pos k, if_pos a]; rfl
        unfold SC; rw [C]
        refine ⟨_, _, M, s_flag h 1 0 (by decide), ?_, pf_bit S 0, rfl, rfl⟩
        show (((v <<< ((1 : Int32) &&& 31)) &&& (65535 : Int32)) ||| (0 : Int32)) = (((2 : Int32) * v) + (0 : Int32)) &&& (65535 : Int32)
        rw [Int32.add_zero, two_mul, Int32.or_zero]
      · have C : f_Prc_changed S 1 v 1 = ((((v <<< ((1 : Int32) &&& 31)) &&& f_Reg_maskOf 1) ||| (0 : Int32)), f_Reg_putFlag S 1 1) := by
          rw [cc_1, if_neg (show ¬ (v &&& f_Reg_signOf 1) = (0 : Int32) from a)]
          show (if f_Reg_has S 1 = (0 : Int32) then _ else _) = _
          rw [hk, if_pos k]
        have M : f_Mdl_changed T 3 v 0 = f_Mdl_result (f_Mdl_flag T 1 1) (((2 : Int32) * v) + (0 : Int32)) 0 := by
          rw [mc_3, if_pos (rfl : (0 : Int32) = 0), if_pos k, if_neg a]; rfl
        unfold SC; rw [C]
        refine ⟨_, _, M, s_flag h 1 1 (by decide), ?_, pf_bit S 1, rfl, rfl⟩
        show (((v <<< ((1 : Int32) &&& 31)) &&& (65535 : Int32)) ||| (0 : Int32)) = (((2 : Int32) * v) + (0 : Int32)) &&& (65535 : Int32)
        rw [Int32.add_zero, two_mul, Int32.or_zero]
    · by_cases a : (v &&& (32768 : Int32)) = (0 : Int32)
      · have C : f_Prc_changed S 1 v 1 = ((((v <<< ((1 : Int32) &&& 31)) &&& f_Reg_maskOf 1) ||| (1 : Int32)), f_Reg_putFlag S 1 0) := by
          rw [cc_1, if_pos (show (v &&& f_Reg_signOf 1) = (0 : Int32) from a)]
          show (if f_Reg_has S 1 = (0 : Int32) then _ else _) = _
          rw [hk, if_neg k]
        have M : f_Mdl_changed T 3 v 0 = f_Mdl_result (f_Mdl_flag T 1 0) (((2 : Int32) * v) + (1 : Int32)) 0 := by
          rw [mc_3, if_pos (rfl : (0 : Int32) = 0), if_neg k, if_pos a]; rfl
        unfold SC; rw [C]
        refine ⟨_, _, M, s_flag h 1 0 (by decide), ?_, pf_bit S 0, rfl, rfl⟩
        show (((v <<< ((1 : Int32) &&& 31)) &&& (65535 : Int32)) ||| (1 : Int32)) = (((2 : Int32) * v) + (1 : Int32)) &&& (65535 : Int32)
        rw [two_mul, shl1_1, and_or_r]; rfl
      · have C : f_Prc_changed S 1 v 1 = ((((v <<< ((1 : Int32) &&& 31)) &&& f_Reg_maskOf 1) ||| (1 : Int32)), f_Reg_putFlag S 1 1) := by
          rw [cc_1, if_neg (show ¬ (v &&& f_Reg_signOf 1) = (0 : Int32) from a)]
          show (if f_Reg_has S 1 = (0 : Int32) then _ else _) = _
          rw [hk, if_neg k]
        have M : f_Mdl_changed T 3 v 0 = f_Mdl_result (f_Mdl_flag T 1 1) (((2 : Int32) * v) + (1 : Int32)) 0 := by
          rw [mc_3, if_pos (rfl : (0 : Int32) = 0), if_neg k, if_neg a]; rfl
        unfold SC; rw [C]
        refine ⟨_, _, M, s_flag h 1 1 (by decide), ?_, pf_bit S 1, rfl, rfl⟩
        show (((v <<< ((1 : Int32) &&& 31)) &&& (65535 : Int32)) ||| (1 : Int32)) = (((2 : Int32) * v) + (1 : Int32)) &&& (65535 : Int32)
        rw [two_mul, shl1_1, and_or_r]; rfl
  · have hv : v &&& (255 : Int32) = v := hv
    have hv16 : r16 v := r8_16 hv
    by_cases k : f_Mdl_is T 1 = (0 : Int32)
    · by_cases a : (v &&& (128 : Int32)) = (0 : Int32)
      · have C : f_Prc_changed S 1 v 0 = ((((v <<< ((1 : Int32) &&& 31)) &&& f_Reg_maskOf 0) ||| (0 : Int32)), f_Reg_putFlag S 1 0) := by
          rw [cc_1, if_pos (show (v &&& f_Reg_signOf 0) = (0 : Int32) from a)]
          show (if f_Reg_has S 1 = (0 : Int32) then _ else _) = _
          rw [hk, if_pos k]
        have M : f_Mdl_changed T 3 v 1 = f_Mdl_result (f_Mdl_flag T 1 0) (((2 : Int32) * v) + (0 : Int32)) 1 := by
          rw [mc_3, if_neg (by decide : ¬ (1 : Int32) = 0), if_pos k, if_pos a]; rfl
        unfold SC; rw [C]
        refine ⟨_, _, M, s_flag h 1 0 (by decide), ?_, pf_bit S 0, rfl, rfl⟩
        show (((v <<< ((1 : Int32) &&& 31)) &&& (255 : Int32)) ||| (0 : Int32)) = (((2 : Int32) * v) + (0 : Int32)) &&& (255 : Int32)
        rw [Int32.add_zero, two_mul, Int32.or_zero]
      · have C : f_Prc_changed S 1 v 0 = ((((v <<< ((1 : Int32) &&& 31)) &&& f_Reg_maskOf 0) ||| (0 : Int32)), f_Reg_putFlag S 1 1) := by
          rw [cc_1, if_neg (show ¬ (v &&& f_Reg_signOf 0) = (0 : Int32) from a)]
          show (if f_Reg_has S 1 = (0 : Int32) then _ else _) = _
          rw [hk, if_pos k]
        have M : f_Mdl_changed T 3 v 1 = f_Mdl_result (f_Mdl_flag T 1 1) (((2 : Int32) * v) + (0 : Int32)) 1 := by
          rw [mc_3, if_neg (by decide : ¬ (1 : Int32) = 0), if_pos k, if_neg a]; rfl
        unfold SC; rw [C]
        refine ⟨_, _, M, s_flag h 1 1 (by decide), ?_, pf_bit S 1, rfl, rfl⟩
        show (((v <<< ((1 : Int32) &&& 31)) &&& (255 : Int32)) ||| (0 : Int32)) = (((2 : Int32) * v) + (0 : Int32)) &&& (255 : Int32)
        rw [Int32.add_zero, two_mul, Int32.or_zero]
    · by_cases a : (v &&& (128 : Int32)) = (0 : Int32)
      · have C : f_Prc_changed S 1 v 0 = ((((v <<< ((1 : Int32) &&& 31)) &&& f_Reg_maskOf 0) ||| (1 : Int32)), f_Reg_putFlag S 1 0) := by
          rw [cc_1, if_pos (show (v &&& f_Reg_signOf 0) = (0 : Int32) from a)]
          show (if f_Reg_has S 1 = (0 : Int32) then _ else _) = _
          rw [hk, if_neg k]
        have M : f_Mdl_changed T 3 v 1 = f_Mdl_result (f_Mdl_flag T 1 0) (((2 : Int32) * v) + (1 : Int32)) 1 := by
          rw [mc_3, if_neg (by decide : ¬ (1 : Int32) = 0), if_neg k, if_pos a]; rfl
        unfold SC; rw [C]
        refine ⟨_, _, M, s_flag h 1 0 (by decide), ?_, pf_bit S 0, rfl, rfl⟩
        show (((v <<< ((1 : Int32) &&& 31)) &&& (255 : Int32)) ||| (1 : Int32)) = (((2 : Int32) * v) + (1 : Int32)) &&& (255 : Int32)
        rw [two_mul, shl1_1, and_or_r]; rfl
      · have C : f_Prc_changed S 1 v 0 = ((((v <<< ((1 : Int32) &&& 31)) &&& f_Reg_maskOf 0) ||| (1 : Int32)), f_Reg_putFlag S 1 1) := by
          rw [cc_1, if_neg (show ¬ (v &&& f_Reg_signOf 0) = (0 : Int32) from a)]
          show (if f_Reg_has S 1 = (0 : Int32) then _ else _) = _
          rw [hk, if_neg k]
        have M : f_Mdl_changed T 3 v 1 = f_Mdl_result (f_Mdl_flag T 1 1) (((2 : Int32) * v) + (1 : Int32)) 1 := by
          rw [mc_3, if_neg (by decide : ¬ (1 : Int32) = 0), if_neg k, if_neg a]; rfl
        unfold SC; rw [C]
        refine ⟨_, _, M, s_flag h 1 1 (by decide), ?_, pf_bit S 1, rfl, rfl⟩
        show (((v <<< ((1 : Int32) &&& 31)) &&& (255 : Int32)) ||| (1 : Int32)) = (((2 : Int32) * v) + (1 : Int32)) &&& (255 : Int32)
        rw [two_mul, shl1_1, and_or_r]; rfl
theorem cc_2 (S : Sc) (x2 x3 : Int32) : f_Prc_changed S (2 : Int32) x2 x3 = if (x2 &&& (1 : Int32)) = (0 : Int32) then (bs (f_Reg_putFlag S (1 : Int32) (0 : Int32)) (fun S2 => ((x2 >>> ((1 : Int32) &&& 31)), S2))) else (bs (f_Reg_putFlag S (1 : Int32) (1 : Int32)) (fun S4 => ((x2 >>> ((1 : Int32) &&& 31)), S4))) := rfl
theorem mc_4 (T : Sc) (x2 x3 : Int32) : f_Mdl_changed T (4 : Int32) x2 x3 = if x3 = (0 : Int32) then (if (f_Mdl_is T (1 : Int32)) = (0 : Int32) then (if (x2 &&& (1 : Int32)) = (0 : Int32) then (bs (f_Mdl_flag T (1 : Int32) (0 : Int32)) (fun S4 => bn (f_Mdl_result S4 ((x2 / (2 : Int32)) + (0 : Int32)) x3) (fun r6 S7 => (r6, S7)))) else (bs (f_Mdl_flag T (1 : Int32) (1 : Int32)) (fun S9 => bn (f_Mdl_result S9 ((x2 / (2 : Int32)) + (0 : Int32)) x3) (fun r11 S12 => (r11, S12))))) else (if (x2 &&& (1 : Int32)) = (0 : Int32) then (bs (f_Mdl_flag T (1 : Int32) (0 : Int32)) (fun S15 => bn (f_Mdl_result S15 ((x2 / (2 : Int32)) + (0 : Int32)) x3) (fun r17 S18 => (r17, S18)))) else (bs (f_Mdl_flag T (1 : Int32) (1 : Int32)) (fun S20 => bn (f_Mdl_result S20 ((x2 / (2 : Int32)) + (0 : Int32)) x3) (fun r22 S23 => (r22, S23)))))) else (if (f_Mdl_is T (1 : Int32)) = (0 : Int32) then (if (x2 &&& (1 : Int32)) = (0 : Int32) then (bs (f_Mdl_flag T (1 : Int32) (0 : Int32)) (fun S27 => bn (f_Mdl_result S27 ((x2 / (2 : Int32)) + (0 : Int32)) x3) (fun r29 S30 => (r29, S30)))) else (bs (f_Mdl_flag T (1 : Int32) (1 : Int32)) (fun S32 => bn (f_Mdl_result S32 ((x2 / (2 : Int32)) + (0 : Int32)) x3) (fun r34 S35 => (r34, S35))))) else (if (x2 &&& (1 : Int32)) = (0 : Int32) then (bs (f_Mdl_flag T (1 : Int32) (0 : Int32)) (fun S38 => bn (f_Mdl_result S38 ((x2 / (2 : Int32)) + (0 : Int32)) x3) (fun r40 S41 => (r40, S41)))) else (bs (f_Mdl_flag T (1 : Int32) (1 : Int32)) (fun S43 => bn (f_Mdl_result S43 ((x2 / (2 : Int32)) + (0 : Int32)) x3) (fun r45 S46 => (r45, S46)))))) := rfl
theorem sc_2 {S T : Sc} {v w n : Int32} (h : RR S T) (hw : WN w n) (hv : v &&& f_Reg_maskOf w = v) : SC S T v w n 2 4 := by
  have hk := has_is h 1
  rcases hw with ⟨rfl, rfl⟩ | ⟨rfl, rfl⟩
  · have hv : v &&& (65535 : Int32) = v := hv
    have hv16 : r16 v := hv
    by_cases k : f_Mdl_is T 1 = (0 : Int32)
    · by_cases a : (v &&& (1 : Int32)) = (0 : Int32)
      · have C : f_Prc_changed S 2 v 1 = ((v >>> ((1 : Int32) &&& 31)), f_Reg_putFlag S 1 0) := by
          rw [cc_2, if_pos a]
          rfl
        have M : f_Mdl_changed T 4 v 0 = f_Mdl_result (f_Mdl_flag T 1 0) ((v / (2 : Int32)) + (0 : Int32)) 0 := by
          rw [mc_4, if_pos (rfl : (0 : Int32) = 0), if_pos k, if_pos a]; rfl
        unfold SC; rw [C]
        refine ⟨_, _, M, s_flag h 1 0 (by decide), ?_, pf_bit S 0, rfl, rfl⟩
        show (v >>> ((1 : Int32) &&& 31)) = ((v / (2 : Int32)) + (0 : Int32)) &&& (65535 : Int32)
        rw [Int32.add_zero, half hv16, sr_16 hv]
      · have C : f_Prc_changed S 2 v 1 = ((v >>> ((1 : Int32) &&& 31)), f_Reg_putFlag S 1 1) := by
          rw [cc_2, if_neg a]
          rfl
        have M : f_Mdl_changed T 4 v 0 = f_Mdl_result (f_Mdl_flag T 1 1) ((v / (2 : Int32)) + (0 : Int32)) 0 := by
          rw [mc_4, if_pos (rfl : (0 : Int32) = 0), if_pos k, if_neg a]; rfl
        unfold SC; rw [C]
        refine ⟨_, _, M, s_flag h 1 1 (by decide), ?_, pf_bit S 1, rfl, rfl⟩
        show (v >>> ((1 : Int32) &&& 31)) = ((v / (2 : Int32)) + (0 : Int32)) &&& (65535 : Int32)
        rw [Int32.add_zero, half hv16, sr_16 hv]
    · by_cases a : (v &&& (1 : Int32)) = (0 : Int32)
      · have C : f_Prc_changed S 2 v 1 = ((v >>> ((1 : Int32) &&& 31)), f_Reg_putFlag S 1 0) := by
          rw [cc_2, if_pos a]
          rfl
        have M : f_Mdl_changed T 4 v 0 = f_Mdl_result (f_Mdl_flag T 1 0) ((v / (2 : Int32)) + (0 : Int32)) 0 := by
          rw [mc_4, if_pos (rfl : (0 : Int32) = 0), if_neg k, if_pos a]; rfl
        unfold SC; rw [C]
        refine ⟨_, _, M, s_flag h 1 0 (by decide), ?_, pf_bit S 0, rfl, rfl⟩
        show (v >>> ((1 : Int32) &&& 31)) = ((v / (2 : Int32)) + (0 : Int32)) &&& (65535 : Int32)
        rw [Int32.add_zero, half hv16, sr_16 hv]
      · have C : f_Prc_changed S 2 v 1 = ((v >>> ((1 : Int32) &&& 31)), f_Reg_putFlag S 1 1) := by
          rw [cc_2, if_neg a]
          rfl
        have M : f_Mdl_changed T 4 v 0 = f_Mdl_result (f_Mdl_flag T 1 1) ((v / (2 : Int32)) + (0 : Int32)) 0 := by
          rw [mc_4, if_pos (rfl : (0 : Int32) = 0), if_neg k, if_neg a]; rfl
        unfold SC; rw [C]
        refine ⟨_, _, M, s_flag h 1 1 (by decide), ?_, pf_bit S 1, rfl, rfl⟩
        show (v >>> ((1 : Int32) &&& 31)) = ((v / (2 : Int32)) + (0 : Int32)) &&& (65535 : Int32)
        rw [Int32.add_zero, half hv16, sr_16 hv]
  · have hv : v &&& (255 : Int32) = v := hv
    have hv16 : r16 v := r8_16 hv
    by_cases k : f_Mdl_is T 1 = (0 : Int32)
    · by_cases a : (v &&& (1 : Int32)) = (0 : Int32)
      · have C : f_Prc_changed S 2 v 0 = ((v >>> ((1 : Int32) &&& 31)), f_Reg_putFlag S 1 0) := by
          rw [cc_2, if_pos a]
          rfl
        have M : f_Mdl_changed T 4 v 1 = f_Mdl_result (f_Mdl_flag T 1 0) ((v / (2 : Int32)) + (0 : Int32)) 1 := by
          rw [mc_4, if_neg (by decide : ¬ (1 : Int32) = 0), if_pos k, if_pos a]; rfl
        unfold SC; rw [C]
        refine ⟨_, _, M, s_flag h 1 0 (by decide), ?_, pf_bit S 0, rfl, rfl⟩
        show (v >>> ((1 : Int32) &&& 31)) = ((v / (2 : Int32)) + (0 : Int32)) &&& (255 : Int32)
        rw [Int32.add_zero, half hv16, sr_8 hv]
      · have C : f_Prc_changed S 2 v 0 = ((v >>> ((1 : Int32) &&& 31)), f_Reg_putFlag S 1 1) := by
          rw [cc_2, if_neg a]
          rfl
        have M : f_Mdl_changed T 4 v 1 = f_Mdl_result (f_Mdl_flag T 1 1) ((v / (2 : Int32)) + (0 : Int32)) 1 := by
          rw [mc_4, if_neg (by decide : ¬ (1 : Int32) = 0), if_pos k, if_neg a]; rfl
        unfold SC; rw [C]
        refine ⟨_, _, M, s_flag h 1 1 (by decide), ?_, pf_bit S 1, rfl, rfl⟩
        show (v >>> ((1 : Int32) &&& 31)) = ((v / (2 : Int32)) + (0 : Int32)) &&& (255 : Int32)
        rw [Int32.add_zero, half hv16, sr_8 hv]
    · by_cases a : (v &&& (1 : Int32)) = (0 : Int32)
      · have C : f_Prc_changed S 2 v 0 = ((v >>> ((1 : Int32) &&& 31)), f_Reg_putFlag S 1 0) := by
          rw [cc_2, if_pos a]
          rfl
        have M : f_Mdl_changed T 4 v 1 = f_Mdl_result (f_Mdl_flag T 1 0) ((v / (2 : Int32)) + (0 : Int32)) 1 := by
          rw [mc_4, if_neg (by decide : ¬ (1 : Int32) = 0), if_neg k, if_pos a]; rfl
        unfold SC; rw [C]
        refine ⟨_, _, M, s_flag h 1 0 (by decide), ?_, pf_bit S 0, rfl, rfl⟩
        show (v >>> ((1 : Int32) &&& 31)) = ((v / (2 : Int32)) + (0 : Int32)) &&& (255 : Int32)
        rw [Int32.add_zero, half hv16, sr_8 hv]
      · have C : f_Prc_changed S 2 v 0 = ((v >>> ((1 : Int32) &&& 31)), f_Reg_putFlag S 1 1) := by
          rw [cc_2, if_neg a]
          rfl
        have M : f_Mdl_changed T 4 v 1 = f_Mdl_result (f_Mdl_flag T 1 1) ((v / (2 : Int32)) + (0 : Int32)) 1 := by
          rw [mc_4, if_neg (by decide : ¬ (1 : Int32) = 0), if_neg k, if_neg a]; rfl
        unfold SC; rw [C]
        refine ⟨_, _, M, s_flag h 1 1 (by decide), ?_, pf_bit S 1, rfl, rfl⟩
        show (v >>> ((1 : Int32) &&& 31)) = ((v / (2 : Int32)) + (0 : Int32)) &&& (255 : Int32)
        rw [Int32.add_zero, half hv16, sr_8 hv]
theorem cc_3 (S : Sc) (x2 x3 : Int32) : f_Prc_changed S (3 : Int32) x2 x3 = if (x2 &&& (1 : Int32)) = (0 : Int32) then (bs (f_Reg_putFlag S (1 : Int32) (0 : Int32)) (fun S2 => if (f_Reg_has S (1 : Int32)) = (0 : Int32) then ((((x2 >>> ((1 : Int32) &&& 31)) ||| (0 : Int32)), S2)) else ((((x2 >>> ((1 : Int32) &&& 31)) ||| (f_Reg_signOf x3)), S2)))) else (bs (f_Reg_putFlag S (1 : Int32) (1 : Int32)) (fun S5 => if (f_Reg_has S (1 : Int32)) = (0 : Int32) then ((((x2 >>> ((1 : Int32) &&& 31)) ||| (0 : Int32)), S5)) else ((((x2 >>> ((1 : Int32) &&& 31)) ||| (f_Reg_signOf x3)), S5)))) := rfl
theorem mc_5 (T : Sc) (x2 x3 : Int32) : f_Mdl_changed T (5 : Int32) x2 x3 = if x3 = (0 : Int32) then (if (f_Mdl_is T (1 : Int32)) = (0 : Int32) then (if (x2 &&& (1 : Int32)) = (0 : Int32) then (bs (f_Mdl_flag T (1 : Int32) (0 : Int32)) (fun S4 => bn (f_Mdl_result S4 ((x2 / (2 : Int32)) + (0 : Int32)) x3) (fun r6 S7 => (r6, S7)))) else (bs (f_Mdl_flag T (1 : Int32) (1 : Int32)) (fun S9 => bn (f_Mdl_result S9 ((x2 / (2 : Int32)) + (0 : Int32)) x3) (fun r11 S12 => (r11, S12))))) else (if (x2 &&& (1 : Int32)) = (0 : Int32) then (bs (f_Mdl_flag T (1 : Int32) (0 : Int32)) (fun S15 => bn (f_Mdl_result S15 ((x2 / (2 : Int32)) + (32768 : Int32)) x3) (fun r17 S18 => (r17, S18)))) else (bs (f_Mdl_flag T (1 : Int32) (1 : Int32)) (fun S20 => bn (f_Mdl_result S20 ((x2 / (2 : Int32)) + (32768 : Int32)) x3) (fun r22 S23 => (r22, S23)))))) else (if (f_Mdl_is T (1 : Int32)) = (0 : Int32) then (if (x2 &&& (1 : Int32)) = (0 : Int32) then (bs (f_Mdl_flag T (1 : Int32) (0 : Int32)) (fun S27 => bn (f_Mdl_result S27 ((x2 / (2 : Int32)) + (0 : Int32)) x3) (fun r29 S30 => (r29, S30)))) else (bs (f_Mdl_flag T (1 : Int32) (1 : Int32)) (fun S32 => bn (f_Mdl_result S32 ((x2 / (2 : Int32)) + (0 : Int32)) x3) (fun r34 S35 => (r34, S35))))) else (if (x2 &&& (1 : Int32)) = (0 : Int32) then (bs (f_Mdl_flag T (1 : Int32) (0 : Int32)) (fun S38 => bn (f_Mdl_result S38 ((x2 / (2 : Int32)) + (128 : Int32)) x3) (fun r40 S41 => (r40, S41)))) else (bs (f_Mdl_flag T (1 : Int32) (1 : Int32)) (fun S43 => bn (f_Mdl_result S43 ((x2 / (2 : Int32)) + (128 : Int32)) x3) (fun r45 S46 => (r45, S46)))))) := rfl
theorem sc_3 {S T : Sc} {v w n : Int32} (h : RR S T) (hw : WN w n) (hv : v &&& f_Reg_maskOf w = v) : SC S T v w n 3 5 := by
  have hk := has_is h 1
  rcases hw with ⟨rfl, rfl⟩ | ⟨rfl, rfl⟩
  · have hv : v &&& (65535 : Int32) = v := hv
    have hv16 : r16 v := hv
    by_cases k : f_Mdl_is T 1 = (0 : Int32)
    · by_cases a : (v &&& (1 : Int32)) = (0 : Int32)
      · have C : f_Prc_changed S 3 v 1 = (((v >>> ((1 : Int32) &&& 31)) ||| (0 : Int32)), f_Reg_putFlag S 1 0) := by
          rw [cc_3, if_pos a]
          show (if f_Reg_has S 1 = (0 : Int32) then _ else _) = _
          rw [hk, if_pos k]
        have M : f_Mdl_changed T 5 v 0 = f_Mdl_result (f_Mdl_flag T 1 0) ((v / (2 : Int32)) + (0 : Int32)) 0 := by
          rw [mc_5, if_pos (rfl : (0 : Int32) = 0), if_pos k, if_pos a]; rfl
        unfold SC; rw [C]
        refine ⟨_, _, M, s_flag h 1 0 (by decide), ?_, pf_bit S 0, rfl, rfl⟩
        show ((v >>> ((1 : Int32) &&& 31)) ||| (0 : Int32)) = ((v / (2 : Int32)) + (0 : Int32)) &&& (65535 : Int32)
        rw [Int32.add_zero, half hv16, sr_16 hv, Int32.or_zero]
      · have C : f_Prc_changed S 3 v 1 = (((v >>> ((1 : Int32) &&& 31)) ||| (0 : Int32)), f_Reg_putFlag S 1 1) := by
          rw [cc_3, if_neg a]
          show (if f_Reg_has S 1 = (0 : Int32) then _ else _) = _
          rw [hk, if_pos k]
        have M : f_Mdl_changed T 5 v 0 = f_Mdl_result (f_Mdl_flag T 1 1) ((v / (2 : Int32)) + (0 : Int32)) 0 := by
          rw [mc_5, if_pos (rfl : (0 : Int32) = 0), if_pos k, if_neg a]; rfl
        unfold SC; rw [C]
        refine ⟨_, _, M, s_flag h 1 1 (by decide), ?_, pf_bit S 1, rfl, rfl⟩
        show ((v >>> ((1 : Int32) &&& 31)) ||| (0 : Int32)) = ((v / (2 : Int32)) + (0 : Int32)) &&& (65535 : Int32)
        rw [Int32.add_zero, half hv16, sr_16 hv, Int32.or_zero]
    · by_cases a : (v &&& (1 : Int32)) = (0 : Int32)
      · have C : f_Prc_changed S 3 v 1 = (((v >>> ((1 : Int32) &&& 31)) ||| f_Reg_signOf 1), f_Reg_putFlag S 1 0) := by
          rw [cc_3, if_pos a]
          show (if f_Reg_has S 1 = (0 : Int32) then _ else _) = _
          rw [hk, if_neg k]
        have M : f_Mdl_changed T 5 v 0 = f_Mdl_result (f_Mdl_flag T 1 0) ((v / (2 : Int32)) + (32768 : Int32)) 0 := by
          rw [mc_5, if_pos (rfl : (0 : Int32) = 0), if_neg k, if_pos a]; rfl
        unfold SC; rw [C]
        refine ⟨_, _, M, s_flag h 1 0 (by decide), ?_, pf_bit S 0, rfl, rfl⟩
        show ((v >>> ((1 : Int32) &&& 31)) ||| (32768 : Int32)) = ((v / (2 : Int32)) + (32768 : Int32)) &&& (65535 : Int32)
        rw [half hv16, sr_t16 hv, and_or_r, sr_16 hv]; rfl
      · have C : f_Prc_changed S 3 v 1 = (((v >>> ((1 : Int32) &&& 31)) ||| f_Reg_signOf 1), f_Reg_putFlag S 1 1) := by
          rw [cc_3, if_neg a]
          show (if f_Reg_has S 1 = (0 : Int32) then _ else _) = _
          rw [hk, if_neg k]
        have M : f_Mdl_changed T 5 v 0 = f_Mdl_result (f_Mdl_flag T 1 1) ((v / (2 : Int32)) + (32768 : Int32)) 0 := by
          rw [mc_5, if_pos (rfl : (0 : Int32) = 0), if_neg k, if_neg a]; rfl
        unfold SC; rw [C]
        refine ⟨_, _, M, s_flag h 1 1 (by decide), ?_, pf_bit S 1, rfl, rfl⟩
        show ((v >>> ((1 : Int32) &&& 31)) ||| (32768 : Int32)) = ((v / (2 : Int32)) + (32768 : Int32)) &&& (65535 : Int32)
        rw [half hv16, sr_t16 hv, and_or_r, sr_16 hv]; rfl
  · have hv : v &&& (255 : Int32) = v := hv
    have hv16 : r16 v := r8_16 hv
    by_cases k : f_Mdl_is T 1 = (0 : Int32)
    · by_cases a : (v &&& (1 : Int32)) = (0 : Int32)
      · have C : f_Prc_changed S 3 v 0 = (((v >>> ((1 : Int32) &&& 31)) ||| (0 : Int32)), f_Reg_putFlag S 1 0) := by
          rw [cc_3, if_pos a]
          show (if f_Reg_has S 1 = (0 : Int32) then _ else _) = _
          rw [hk, if_pos k]
        have M : f_Mdl_changed T 5 v 1 = f_Mdl_result (f_Mdl_flag T 1 0) ((v / (2 : Int32)) + (0 : Int32)) 1 := by
          rw [mc_5, if_neg (by decide : ¬ (1 : Int32) = 0), if_pos k, if_pos a]; rfl
        unfold SC; rw [C]
        refine ⟨_, _, M, s_flag h 1 0 (by decide), ?_, pf_bit S 0, rfl, rfl⟩
        show ((v >>> ((1 : Int32) &&& 31)) ||| (0 : Int32)) = ((v / (2 : Int32)) + (0 : Int32)) &&& (255 : Int32)
        rw [Int32.add_zero, half hv16, sr_8 hv, Int32.or_zero]
      · have C : f_Prc_changed S 3 v 0 = (((v >>> ((1 : Int32) &&& 31)) ||| (0 : Int32)), f_Reg_putFlag S 1 1) := by
          rw [cc_3, if_neg a]
          show (if f_Reg_has S 1 = (0 : Int32) then _ else _) = _
          rw [hk, if_pos k]
        have M : f_Mdl_changed T 5 v 1 = f_Mdl_result (f_Mdl_flag T 1 1) ((v / (2 : Int32)) + (0 : Int32)) 1 := by
          rw [mc_5, if_neg (by decide : ¬ (1 : Int32) = 0), if_pos k, if_neg a]; rfl
        unfold SC; rw [C]
        refine ⟨_, _, M, s_flag h 1 1 (by decide), ?_, pf_bit S 1, rfl, rfl⟩
        show ((v >>> ((1 : Int32) &&& 31)) ||| (0 : Int32)) = ((v / (2 : Int32)) + (0 : Int32)) &&& (255 : Int32)
        rw [Int32.add_zero, half hv16, sr_8 hv, Int32.or_zero]
    · by_cases a : (v &&& (1 : Int32)) = (0 : Int32)
      · have C : f_Prc_changed S 3 v 0 = (((v >>> ((1 : Int32) &&& 31)) ||| f_Reg_signOf 0), f_Reg_putFlag S 1 0) := by
          rw [cc_3, if_pos a]
          show (if f_Reg_has S 1 = (0 : Int32) then _ else _) = _
          rw [hk, if_neg k]
        have M : f_Mdl_changed T 5 v 1 = f_Mdl_result (f_Mdl_flag T 1 0) ((v / (2 : Int32)) + (128 : Int32)) 1 := by
          rw [mc_5, if_neg (by decide : ¬ (1 : Int32) = 0), if_neg k, if_pos a]; rfl
        unfold SC; rw [C]
        refine ⟨_, _, M, s_flag h 1 0 (by decide), ?_, pf_bit S 0, rfl, rfl⟩
        show ((v >>> ((1 : Int32) &&& 31)) ||| (128 : Int32)) = ((v / (2 : Int32)) + (128 : Int32)) &&& (255 : Int32)
        rw [half hv16, sr_t8 hv, and_or_r, sr_8 hv]; rfl
      · have C : f_Prc_changed S 3 v 0 = (((v >>> ((1 : Int32) &&& 31)) ||| f_Reg_signOf 0), f_Reg_putFlag S 1 1) := by
          rw [cc_3, if_neg a]
          show (if f_Reg_has S 1 = (0 : Int32) then _ else _) = _
          rw [hk, if_neg k]
        have M : f_Mdl_changed T 5 v 1 = f_Mdl_result (f_Mdl_flag T 1 1) ((v / (2 : Int32)) + (128 : Int32)) 1 := by
          rw [mc_5, if_neg (by decide : ¬ (1 : Int32) = 0), if_neg k, if_neg a]; rfl
        unfold SC; rw [C]
        refine ⟨_, _, M, s_flag h 1 1 (by decide), ?_, pf_bit S 1, rfl, rfl⟩
        show ((v >>> ((1 : Int32) &&& 31)) ||| (128 : Int32)) = ((v / (2 : Int32)) + (128 : Int32)) &&& (255 : Int32)
        rw [half hv16, sr_t8 hv, and_or_r, sr_8 hv]; rfl
theorem cc_6 (S : Sc) (x2 x3 : Int32) : f_Prc_changed S (6 : Int32) x2 x3 = (((x2 - (1 : Int32)) &&& (f_Reg_maskOf x3)), S) := rfl
theorem mc_1 (T : Sc) (x2 x3 : Int32) : f_Mdl_changed T (1 : Int32) x2 x3 = if x3 = (0 : Int32) then (if (f_Mdl_is T (1 : Int32)) = (0 : Int32) then (bn (f_Mdl_result T (x2 - (1 : Int32)) x3) (fun r3 S4 => (r3, S4))) else (bn (f_Mdl_result T (x2 - (1 : Int32)) x3) (fun r6 S7 => (r6, S7)))) else (if (f_Mdl_is T (1 : Int32)) = (0 : Int32) then (bn (f_Mdl_result T (x2 - (1 : Int32)) x3) (fun r10 S11 => (r10, S11))) else (bn (f_Mdl_result T (x2 - (1 : Int32)) x3) (fun r13 S14 => (r13, S14)))) := rfl
theorem sc_6 {S T : Sc} {v w n : Int32} (h : RR S T) (hw : WN w n) (hv : v &&& f_Reg_maskOf w = v) : SC S T v w n 6 1 := by
  have hk := has_is h 1
  rcases hw with ⟨rfl, rfl⟩ | ⟨rfl, rfl⟩
  · have hv : v &&& (65535 : Int32) = v := hv
    have hv16 : r16 v := hv
    by_cases k : f_Mdl_is T 1 = (0 : Int32)
    · have M : f_Mdl_changed T 1 v 0 = f_Mdl_result T (v - 1) 0 := by
        rw [mc_1, if_pos (rfl : (0 : Int32) = 0), if_pos k]; rfl
      exact ⟨_, _, M, h, rfl, rfl, rfl, rfl⟩
    · have M : f_Mdl_changed T 1 v 0 = f_Mdl_result T (v - 1) 0 := by
        rw [mc_1, if_pos (rfl : (0 : Int32) = 0), if_neg k]; rfl
      exact ⟨_, _, M, h, rfl, rfl, rfl, rfl⟩
  · have hv : v &&& (255 : Int32) = v := hv
    have hv16 : r16 v := r8_16 hv
    by_cases k : f_Mdl_is T 1 = (0 : Int32)
    · have M : f_Mdl_changed T 1 v 1 = f_Mdl_result T (v - 1) 1 := by
        rw [mc_1, if_neg (by decide : ¬ (1 : Int32) = 0), if_pos k]; rfl
      exact ⟨_, _, M, h, rfl, rfl, rfl, rfl⟩
    · have M : f_Mdl_changed T 1 v 1 = f_Mdl_result T (v - 1) 1 := by
        rw [mc_1, if_neg (by decide : ¬ (1 : Int32) = 0), if_neg k]; rfl
      exact ⟨_, _, M, h, rfl, rfl, rfl, rfl⟩
theorem cc_7 (S : Sc) (x2 x3 : Int32) : f_Prc_changed S (7 : Int32) x2 x3 = (((x2 + (1 : Int32)) &&& (f_Reg_maskOf x3)), S) := rfl
theorem mc_0 (T : Sc) (x2 x3 : Int32) : f_Mdl_changed T (0 : Int32) x2 x3 = if x3 = (0 : Int32) then (if (f_Mdl_is T (1 : Int32)) = (0 : Int32) then (bn (f_Mdl_result T (x2 + (1 : Int32)) x3) (fun r3 S4 => (r3, S4))) else (bn (f_Mdl_result T (x2 + (1 : Int32)) x3) (fun r6 S7 => (r6, S7)))) else (if (f_Mdl_is T (1 : Int32)) = (0 : Int32) then (bn (f_Mdl_result T (x2 + (1 : Int32)) x3) (fun r10 S11 => (r10, S11))) else (bn (f_Mdl_result T (x2 + (1 : Int32)) x3) (fun r13 S14 => (r13, S14)))) := rfl
theorem sc_7 {S T : Sc} {v w n : Int32} (h : RR S T) (hw : WN w n) (hv : v &&& f_Reg_maskOf w = v) : SC S T v w n 7 0 := by
  have hk := has_is h 1
  rcases hw with ⟨rfl, rfl⟩ | ⟨rfl, rfl⟩
  · have hv : v &&& (65535 : Int32) = v := hv
    have hv16 : r16 v := hv
    by_cases k : f_Mdl_is T 1 = (0 : Int32)
    · have M : f_Mdl_changed T 0 v 0 = f_Mdl_result T (v + 1) 0 := by
        rw [mc_0, if_pos (rfl : (0 : Int32) = 0), if_pos k]; rfl
      exact ⟨_, _, M, h, rfl, rfl, rfl, rfl⟩
    · have M : f_Mdl_changed T 0 v 0 = f_Mdl_result T (v + 1) 0 := by
        rw [mc_0, if_pos (rfl : (0 : Int32) = 0), if_neg k]; rfl
      exact ⟨_, _, M, h, rfl, rfl, rfl, rfl⟩
  · have hv : v &&& (255 : Int32) = v := hv
    have hv16 : r16 v := r8_16 hv
    by_cases k : f_Mdl_is T 1 = (0 : Int32)
    · have M : f_Mdl_changed T 0 v 1 = f_Mdl_result T (v + 1) 1 := by
        rw [mc_0, if_neg (by decide : ¬ (1 : Int32) = 0), if_pos k]; rfl
      exact ⟨_, _, M, h, rfl, rfl, rfl, rfl⟩
    · have M : f_Mdl_changed T 0 v 1 = f_Mdl_result T (v + 1) 1 := by
        rw [mc_0, if_neg (by decide : ¬ (1 : Int32) = 0), if_neg k]; rfl
      exact ⟨_, _, M, h, rfl, rfl, rfl, rfl⟩
theorem vk_00 : ∀ k, k < 256 → ((nI k &&& ((64 : Int32) ^^^ (-1 : Int32))) &&& ((1 : Int32) ^^^ (-1 : Int32))) = ((nI k &&& ((1 : Int32) ^^^ (-1 : Int32))) &&& ((64 : Int32) ^^^ (-1 : Int32))) := by decide +kernel
theorem fvk_00 {S T : Sc} (h : RR S T) : RR (f_Reg_putFlag (f_Reg_putFlag S 64 0) 1 0) (f_Mdl_flag (f_Mdl_flag T 1 0) 64 0) := by
  obtain ⟨k, hk, ep⟩ := r8_nI (RRr_8 h)
  have e := RRe_8 h
  show RR (pr (pr S 8 _) 8 ((S.1 8 &&& ((64 : Int32) ^^^ (-1 : Int32))) &&& ((1 : Int32) ^^^ (-1 : Int32)))) (pr (pr T 6 _) 6 ((T.1 6 &&& ((1 : Int32) ^^^ (-1 : Int32))) &&& ((64 : Int32) ^^^ (-1 : Int32))))
  rw [pr_pr, pr_pr]
  refine R_8 h (by rw [← e, ep]; exact vk_00 k hk) ?_
  exact RRr_8 (s_flag (s_flag h 64 0 (by decide)) 1 0 (by decide))
theorem vk_01 : ∀ k, k < 256 → ((nI k &&& ((64 : Int32) ^^^ (-1 : Int32))) ||| (1 : Int32)) = ((nI k ||| (1 : Int32)) &&& ((64 : Int32) ^^^ (-1 : Int32))) := by decide +kernel
theorem fvk_01 {S T : Sc} (h : RR S T) : RR (f_Reg_putFlag (f_Reg_putFlag S 64 0) 1 1) (f_Mdl_flag (f_Mdl_flag T 1 1) 64 0) := by
  obtain ⟨k, hk, ep⟩ := r8_nI (RRr_8 h)
  have e := RRe_8 h
  show RR (pr (pr S 8 _) 8 ((S.1 8 &&& ((64 : Int32) ^^^ (-1 : Int32))) ||| (1 : Int32))) (pr (pr T 6 _) 6 ((T.1 6 ||| (1 : Int32)) &&& ((64 : Int32) ^^^ (-1 : Int32))))
  rw [pr_pr, pr_pr]
  refine R_8 h (by rw [← e, ep]; exact vk_01 k hk) ?_
  exact RRr_8 (s_flag (s_flag h 64 0 (by decide)) 1 1 (by decide))
theorem vk_10 : ∀ k, k < 256 → ((nI k ||| (64 : Int32)) &&& ((1 : Int32) ^^^ (-1 : Int32))) = ((nI k &&& ((1 : Int32) ^^^ (-1 : Int32))) ||| (64 : Int32)) := by decide +kernel
theorem fvk_10 {S T : Sc} (h : RR S T) : RR (f_Reg_putFlag (f_Reg_putFlag S 64 1) 1 0) (f_Mdl_flag (f_Mdl_flag T 1 0) 64 1) := by
  obtain ⟨k, hk, ep⟩ := r8_nI (RRr_8 h)
  have e := RRe_8 h
  show RR (pr (pr S 8 _) 8 ((S.1 8 ||| (64 : Int32)) &&& ((1 : Int32) ^^^ (-1 : Int32)))) (pr (pr T 6 _) 6 ((T.1 6 &&& ((1 : Int32) ^^^ (-1 : Int32))) ||| (64 : Int32)))
  rw [pr_pr, pr_pr]
  refine R_8 h (by rw [← e, ep]; exact vk_10 k hk) ?_
  exact RRr_8 (s_flag (s_flag h 64 1 (by decide)) 1 0 (by decide))
theorem vk_11 : ∀ k, k < 256 → ((nI k ||| (64 : Int32)) ||| (1 : Int32)) = ((nI k ||| (1 : Int32)) ||| (64 : Int32)) := by decide +kernel
theorem fvk_11 {S T : Sc} (h : RR S T) : RR (f_Reg_putFlag (f_Reg_putFlag S 64 1) 1 1) (f_Mdl_flag (f_Mdl_flag T 1 1) 64 1) := by
  obtain ⟨k, hk, ep⟩ := r8_nI (RRr_8 h)
  have e := RRe_8 h
  show RR (pr (pr S 8 _) 8 ((S.1 8 ||| (64 : Int32)) ||| (1 : Int32))) (pr (pr T 6 _) 6 ((T.1 6 ||| (1 : Int32)) ||| (64 : Int32)))
  rw [pr_pr, pr_pr]
  refine R_8 h (by rw [← e, ep]; exact vk_11 k hk) ?_
  exact RRr_8 (s_flag (s_flag h 64 1 (by decide)) 1 1 (by decide))
theorem s_add {S T : Sc} {v : Int32} (h : RR S T) : RR (f_Prc_addToA S v) (f_Mdl_add T v) := by
  have ea := acc_eq h
  have ek := carry h
  have hw0 := WN_A h
  unfold f_Prc_addToA f_Mdl_add
  rw [ea, vflag]
  generalize ha : f_Mdl_accumulator T = A
  by_cases k : f_Mdl_is T 1 = (0 : Int32)
  · rw [if_pos k, ek.1 k]
    generalize hs : ((A + v) + (0 : Int32)) = s
    rcases hw0 with ⟨w1, n1⟩ | ⟨w1, n1⟩
    · rw [w1, n1, if_pos (rfl : (0 : Int32) = 0), show f_Reg_signOf 1 = (32768 : Int32) from rfl, show f_Reg_maskOf 1 = (65535 : Int32) from rfl]
      by_cases c : s ≤ (65535 : Int32)
      · rw [if_pos c]
        by_cases z : (((A ^^^ s) &&& (v ^^^ s)) &&& (32768 : Int32)) = (0 : Int32)
        · rw [if_pos z]
          show RR (if s ≤ (65535 : Int32) then _ else _) (if (((A ^^^ s) &&& (v ^^^ s)) &&& (32768 : Int32)) = (0 : Int32) then _ else _)
          rw [if_pos c, if_pos z]
          refine s_setA (fvk_00 h) ?_
          have q := WN_b (S2 := f_Reg_putFlag (f_Reg_putFlag S 64 0) 1 0) h ((pf_bit _ _).trans (pf_bit2 _ _))
          rw [n1] at q
          exact q
        · rw [if_neg z]
          show RR (if s ≤ (65535 : Int32) then _ else _) (if (((A ^^^ s) &&& (v ^^^ s)) &&& (32768 : Int32)) = (0 : Int32) then _ else _)
          rw [if_pos c, if_neg z]
          refine s_setA (fvk_10 h) ?_
          have q := WN_b (S2 := f_Reg_putFlag (f_Reg_putFlag S 64 1) 1 0) h ((pf_bit _ _).trans (pf_bit2 _ _))
          rw [n1] at q
          exact q
      · rw [if_neg c]
        by_cases z : (((A ^^^ s) &&& (v ^^^ s)) &&& (32768 : Int32)) = (0 : Int32)
        · rw [if_pos z]
          show RR (if s ≤ (65535 : Int32) then _ else _) (if (((A ^^^ s) &&& (v ^^^ s)) &&& (32768 : Int32)) = (0 : Int32) then _ else _)
          rw [if_neg c, if_pos z]
          refine s_setA (fvk_01 h) ?_
          have q := WN_b (S2 := f_Reg_putFlag (f_Reg_putFlag S 64 0) 1 1) h ((pf_bit _ _).trans (pf_bit2 _ _))
          rw [n1] at q
          exact q
        · rw [if_neg z]
          show RR (if s ≤ (65535 : Int32) then _ else _) (if (((A ^^^ s) &&& (v ^^^ s)) &&& (32768 : Int32)) = (0 : Int32) then _ else _)
          rw [if_neg c, if_neg z]
          refine s_setA (fvk_11 h) ?_
          have q := WN_b (S2 := f_Reg_putFlag (f_Reg_putFlag S 64 1) 1 1) h ((pf_bit _ _).trans (pf_bit2 _ _))
          rw [n1] at q
          exact q
    · rw [w1, n1, if_neg (by decide : ¬ (1 : Int32) = 0), show f_Reg_signOf 0 = (128 : Int32) from rfl, show f_Reg_maskOf 0 = (255 : Int32) from rfl]
      by_cases c : s ≤ (255 : Int32)
      · rw [if_pos c]
        by_cases z : (((A ^^^ s) &&& (v ^^^ s)) &&& (128 : Int32)) = (0 : Int32)
        · rw [if_pos z]
          show RR (if s ≤ (255 : Int32) then _ else _) (if (((A ^^^ s) &&& (v ^^^ s)) &&& (128 : Int32)) = (0 : Int32) then _ else _)
          rw [if_pos c, if_pos z]
          refine s_setA (fvk_00 h) ?_
          have q := WN_b (S2 := f_Reg_putFlag (f_Reg_putFlag S 64 0) 1 0) h ((pf_bit _ _).trans (pf_bit2 _ _))
          rw [n1] at q
          exact q
        · rw [if_neg z]
          show RR (if s ≤ (255 : Int32) then _ else _) (if (((A ^^^ s) &&& (v ^^^ s)) &&& (128 : Int32)) = (0 : Int32) then _ else _)
          rw [if_pos c, if_neg z]
          refine s_setA (fvk_10 h) ?_
          have q := WN_b (S2 := f_Reg_putFlag (f_Reg_putFlag S 64 1) 1 0) h ((pf_bit _ _).trans (pf_bit2 _ _))
          rw [n1] at q
          exact q
      · rw [if_neg c]
        by_cases z : (((A ^^^ s) &&& (v ^^^ s)) &&& (128 : Int32)) = (0 : Int32)
        · rw [if_pos z]
          show RR (if s ≤ (255 : Int32) then _ else _) (if (((A ^^^ s) &&& (v ^^^ s)) &&& (128 : Int32)) = (0 : Int32) then _ else _)
          rw [if_neg c, if_pos z]
          refine s_setA (fvk_01 h) ?_
          have q := WN_b (S2 := f_Reg_putFlag (f_Reg_putFlag S 64 0) 1 1) h ((pf_bit _ _).trans (pf_bit2 _ _))
          rw [n1] at q
          exact q
        · rw [if_neg z]
          show RR (if s ≤ (255 : Int32) then _ else _) (if (((A ^^^ s) &&& (v ^^^ s)) &&& (128 : Int32)) = (0 : Int32) then _ else _)
          rw [if_neg c, if_neg z]
          refine s_setA (fvk_11 h) ?_
          have q := WN_b (S2 := f_Reg_putFlag (f_Reg_putFlag S 64 1) 1 1) h ((pf_bit _ _).trans (pf_bit2 _ _))
          rw [n1] at q
          exact q
  · rw [if_neg k, ek.2 k]
    generalize hs : ((A + v) + (1 : Int32)) = s
    rcases hw0 with ⟨w1, n1⟩ | ⟨w1, n1⟩
    · rw [w1, n1, if_pos (rfl : (0 : Int32) = 0), show f_Reg_signOf 1 = (32768 : Int32) from rfl, show f_Reg_maskOf 1 = (65535 : Int32) from rfl]
      by_cases c : s ≤ (65535 : Int32)
      · rw [if_pos c]
        by_cases z : (((A ^^^ s) &&& (v ^^^ s)) &&& (32768 : Int32)) = (0 : Int32)
        · rw [if_pos z]
          show RR (if s ≤ (65535 : Int32) then _ else _) (if (((A ^^^ s) &&& (v ^^^ s)) &&& (32768 : Int32)) = (0 : Int32) then _ else _)
          rw [if_pos c, if_pos z]
          refine s_setA (fvk_00 h) ?_
          have q := WN_b (S2 := f_Reg_putFlag (f_Reg_putFlag S 64 0) 1 0) h ((pf_bit _ _).trans (pf_bit2 _ _))
          rw [n1] at q
          exact q
        · rw [if_neg z]
          show RR (if s ≤ (65535 : Int32) then _ else _) (if (((A ^^^ s) &&& (v ^^^ s)) &&& (32768 : Int32)) = (0 : Int32) then _ else _)
          rw [if_pos c, if_neg z]
          refine s_setA (fvk_10 h) ?_
          have q := WN_b (S2 := f_Reg_putFlag (f_Reg_putFlag S 64 1) 1 0) h ((pf_bit _ _).trans (pf_bit2 _ _))
          rw [n1] at q
          exact q
      · rw [if_neg c]
        by_cases z : (((A ^^^ s) &&& (v ^^^ s)) &&& (32768 : Int32)) = (0 : Int32)
        · rw [if_pos z]
          show RR (if s ≤ (65535 : Int32) then _ else _) (if (((A ^^^ s) &&& (v ^^^ s)) &&& (32768 : Int32)) = (0 : Int32) then _ else _)
          rw [if_neg c, if_pos z]
          refine s_setA (fvk_01 h) ?_
          have q := WN_b (S2 := f_Reg_putFlag (f_Reg_putFlag S 64 0) 1 1) h ((pf_bit _ _).trans (pf_bit2 _ _))
          rw [n1] at q
          exact q
        · rw [if_neg z]
          show RR (if s ≤ (65535 : Int32) then _ else _) (if (((A ^^^ s) &&& (v ^^^ s)) &&& (32768 : Int32)) = (0 : Int32) then _ else _)
          rw [if_neg c, if_neg z]
          refine s_setA (fvk_11 h) ?_
          have q := WN_b (S2 := f_Reg_putFlag (f_Reg_putFlag S 64 1) 1 1) h ((pf_bit _ _).trans (pf_bit2 _ _))
          rw [n1] at q
          exact q
    · rw [w1, n1, if_neg (by decide : ¬ (1 : Int32) = 0), show f_Reg_signOf 0 = (128 : Int32) from rfl, show f_Reg_maskOf 0 = (255 : Int32) from rfl]
      by_cases c : s ≤ (255 : Int32)
      · rw [if_pos c]
        by_cases z : (((A ^^^ s) &&& (v ^^^ s)) &&& (128 : Int32)) = (0 : Int32)
        · rw [if_pos z]
          show RR (if s ≤ (255 : Int32) then _ else _) (if (((A ^^^ s) &&& (v ^^^ s)) &&& (128 : Int32)) = (0 : Int32) then _ else _)
          rw [if_pos c, if_pos z]
          refine s_setA (fvk_00 h) ?_
          have q := WN_b (S2 := f_Reg_putFlag (f_Reg_putFlag S 64 0) 1 0) h ((pf_bit _ _).trans (pf_bit2 _ _))
          rw [n1] at q
          exact q
        · rw [if_neg z]
          show RR (if s ≤ (255 : Int32) then _ else _) (if (((A ^^^ s) &&& (v ^^^ s)) &&& (128 : Int32)) = (0 : Int32) then _ else _)
          rw [if_pos c, if_neg z]
          refine s_setA (fvk_10 h) ?_
          have q := WN_b (S2 := f_Reg_putFlag (f_Reg_putFlag S 64 1) 1 0) h ((pf_bit _ _).trans (pf_bit2 _ _))
          rw [n1] at q
          exact q
      · rw [if_neg c]
        by_cases z : (((A ^^^ s) &&& (v ^^^ s)) &&& (128 : Int32)) = (0 : Int32)
        · rw [if_pos z]
          show RR (if s ≤ (255 : Int32) then _ else _) (if (((A ^^^ s) &&& (v ^^^ s)) &&& (128 : Int32)) = (0 : Int32) then _ else _)
          rw [if_neg c, if_pos z]
          refine s_setA (fvk_01 h) ?_
          have q := WN_b (S2 := f_Reg_putFlag (f_Reg_putFlag S 64 0) 1 1) h ((pf_bit _ _).trans (pf_bit2 _ _))
          rw [n1] at q
          exact q
        · rw [if_neg z]
          show RR (if s ≤ (255 : Int32) then _ else _) (if (((A ^^^ s) &&& (v ^^^ s)) &&& (128 : Int32)) = (0 : Int32) then _ else _)
          rw [if_neg c, if_neg z]
          refine s_setA (fvk_11 h) ?_
          have q := WN_b (S2 := f_Reg_putFlag (f_Reg_putFlag S 64 1) 1 1) h ((pf_bit _ _).trans (pf_bit2 _ _))
          rw [n1] at q
          exact q
